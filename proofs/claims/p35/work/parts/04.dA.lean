theorem dX0_init_0 : decode cX0_init 0 = .ok (.aload_n 0, 1) := by decide +kernel
theorem dX0_init_1 : decode cX0_init 1 = .ok (.invokespecial 3, 3) := by decide +kernel
theorem dX0_init_4 : decode cX0_init 4 = .ok (.aload_n 0, 1) := by decide +kernel
theorem dX0_init_5 : decode cX0_init 5 = .ok (.bipush 60, 2) := by decide +kernel
theorem dX0_init_7 : decode cX0_init 7 = .ok (.newarray .int, 2) := by decide +kernel
theorem dX0_init_9 : decode cX0_init 9 = .ok (.putfield 9, 3) := by decide +kernel
theorem dX0_init_12 : decode cX0_init 12 = .ok (.aload_n 0, 1) := by decide +kernel
theorem dX0_init_13 : decode cX0_init 13 = .ok (.iconst 0, 1) := by decide +kernel
theorem dX0_init_14 : decode cX0_init 14 = .ok (.putfield 15, 3) := by decide +kernel
theorem dX0_init_17 : decode cX0_init 17 = .ok (.return_, 1) := by decide +kernel
theorem dX1_init_0 : decode cX1_init 0 = .ok (.aload_n 0, 1) := by decide +kernel
theorem dX1_init_1 : decode cX1_init 1 = .ok (.invokespecial 3, 3) := by decide +kernel
theorem dX1_init_4 : decode cX1_init 4 = .ok (.aload_n 0, 1) := by decide +kernel
theorem dX1_init_5 : decode cX1_init 5 = .ok (.bipush 6, 2) := by decide +kernel
theorem dX1_init_7 : decode cX1_init 7 = .ok (.anewarray 9, 3) := by decide +kernel
theorem dX1_init_10 : decode cX1_init 10 = .ok (.putfield 11, 3) := by decide +kernel
theorem dX1_init_13 : decode cX1_init 13 = .ok (.aload_n 0, 1) := by decide +kernel
theorem dX1_init_14 : decode cX1_init 14 = .ok (.iconst 0, 1) := by decide +kernel
theorem dX1_init_15 : decode cX1_init 15 = .ok (.putfield 17, 3) := by decide +kernel
theorem dX1_init_18 : decode cX1_init 18 = .ok (.iconst 0, 1) := by decide +kernel
theorem dX1_init_19 : decode cX1_init 19 = .ok (.istore_n 1, 1) := by decide +kernel
theorem dX1_init_20 : decode cX1_init 20 = .ok (.iload_n 1, 1) := by decide +kernel
theorem dX1_init_21 : decode cX1_init 21 = .ok (.bipush 6, 2) := by decide +kernel
theorem dX1_init_23 : decode cX1_init 23 = .ok (.if_icmp .ge 22, 3) := by decide +kernel
theorem dX1_init_26 : decode cX1_init 26 = .ok (.aload_n 0, 1) := by decide +kernel
theorem dX1_init_27 : decode cX1_init 27 = .ok (.getfield 11, 3) := by decide +kernel
theorem dX1_init_30 : decode cX1_init 30 = .ok (.iload_n 1, 1) := by decide +kernel
theorem dX1_init_31 : decode cX1_init 31 = .ok (.new 9, 3) := by decide +kernel
theorem dX1_init_34 : decode cX1_init 34 = .ok (.dup, 1) := by decide +kernel
theorem dX1_init_35 : decode cX1_init 35 = .ok (.invokespecial 21, 3) := by decide +kernel
theorem dX1_init_38 : decode cX1_init 38 = .ok (.aastore, 1) := by decide +kernel
theorem dX1_init_39 : decode cX1_init 39 = .ok (.iinc 1 1, 3) := by decide +kernel
theorem dX1_init_42 : decode cX1_init 42 = .ok (.goto (-22), 3) := by decide +kernel
theorem dX1_init_45 : decode cX1_init 45 = .ok (.return_, 1) := by decide +kernel
theorem dX1_size_0 : decode cX1_size 0 = .ok (.aload_n 0, 1) := by decide +kernel
theorem dX1_size_1 : decode cX1_size 1 = .ok (.getfield 17, 3) := by decide +kernel
theorem dX1_size_4 : decode cX1_size 4 = .ok (.ireturn, 1) := by decide +kernel
theorem dX1_save_0 : decode cX1_save 0 = .ok (.aload_n 0, 1) := by decide +kernel
theorem dX1_save_1 : decode cX1_save 1 = .ok (.getfield 17, 3) := by decide +kernel
theorem dX1_save_4 : decode cX1_save 4 = .ok (.bipush 6, 2) := by decide +kernel
theorem dX1_save_6 : decode cX1_save 6 = .ok (.if_icmp .lt 7, 3) := by decide +kernel
theorem dX1_save_9 : decode cX1_save 9 = .ok (.aload_n 0, 1) := by decide +kernel
theorem dX1_save_10 : decode cX1_save 10 = .ok (.invokevirtual 22, 3) := by decide +kernel
theorem dX1_save_13 : decode cX1_save 13 = .ok (.aload_n 0, 1) := by decide +kernel
theorem dX1_save_14 : decode cX1_save 14 = .ok (.getfield 11, 3) := by decide +kernel
theorem dX1_save_17 : decode cX1_save 17 = .ok (.aload_n 0, 1) := by decide +kernel
theorem dX1_save_18 : decode cX1_save 18 = .ok (.getfield 17, 3) := by decide +kernel
theorem dX1_save_21 : decode cX1_save 21 = .ok (.aaload, 1) := by decide +kernel
theorem dX1_save_22 : decode cX1_save 22 = .ok (.astore_n 2, 1) := by decide +kernel
theorem dX1_save_23 : decode cX1_save 23 = .ok (.aload_n 2, 1) := by decide +kernel
theorem dX1_save_24 : decode cX1_save 24 = .ok (.ifnull 18, 3) := by decide +kernel
theorem dX1_save_27 : decode cX1_save 27 = .ok (.aload_n 2, 1) := by decide +kernel
theorem dX1_save_28 : decode cX1_save 28 = .ok (.aload_n 1, 1) := by decide +kernel
theorem dX1_save_29 : decode cX1_save 29 = .ok (.invokevirtual 25, 3) := by decide +kernel
theorem dX1_save_32 : decode cX1_save 32 = .ok (.aload_n 0, 1) := by decide +kernel
theorem dX1_save_33 : decode cX1_save 33 = .ok (.dup, 1) := by decide +kernel
theorem dX1_save_34 : decode cX1_save 34 = .ok (.getfield 17, 3) := by decide +kernel
theorem dX1_save_37 : decode cX1_save 37 = .ok (.iconst 1, 1) := by decide +kernel
theorem dX1_save_38 : decode cX1_save 38 = .ok (.iadd, 1) := by decide +kernel
theorem dX1_save_39 : decode cX1_save 39 = .ok (.putfield 17, 3) := by decide +kernel
theorem dX1_save_42 : decode cX1_save 42 = .ok (.return_, 1) := by decide +kernel
theorem dX1_discardOldest_0 : decode cX1_discardOldest 0 = .ok (.aload_n 0, 1) := by decide +kernel
theorem dX1_discardOldest_1 : decode cX1_discardOldest 1 = .ok (.getfield 11, 3) := by decide +kernel
theorem dX1_discardOldest_4 : decode cX1_discardOldest 4 = .ok (.iconst 0, 1) := by decide +kernel
theorem dX1_discardOldest_5 : decode cX1_discardOldest 5 = .ok (.aaload, 1) := by decide +kernel
theorem dX1_discardOldest_6 : decode cX1_discardOldest 6 = .ok (.astore_n 1, 1) := by decide +kernel
theorem dX1_discardOldest_7 : decode cX1_discardOldest 7 = .ok (.iconst 1, 1) := by decide +kernel
theorem dX1_discardOldest_8 : decode cX1_discardOldest 8 = .ok (.istore_n 2, 1) := by decide +kernel
theorem dX1_discardOldest_9 : decode cX1_discardOldest 9 = .ok (.iload_n 2, 1) := by decide +kernel
theorem dX1_discardOldest_10 : decode cX1_discardOldest 10 = .ok (.bipush 6, 2) := by decide +kernel
theorem dX1_discardOldest_12 : decode cX1_discardOldest 12 = .ok (.if_icmp .ge 23, 3) := by decide +kernel
theorem dX1_discardOldest_15 : decode cX1_discardOldest 15 = .ok (.aload_n 0, 1) := by decide +kernel
theorem dX1_discardOldest_16 : decode cX1_discardOldest 16 = .ok (.getfield 11, 3) := by decide +kernel
theorem dX1_discardOldest_19 : decode cX1_discardOldest 19 = .ok (.iload_n 2, 1) := by decide +kernel
theorem dX1_discardOldest_20 : decode cX1_discardOldest 20 = .ok (.iconst 1, 1) := by decide +kernel
theorem dX1_discardOldest_21 : decode cX1_discardOldest 21 = .ok (.isub, 1) := by decide +kernel
theorem dX1_discardOldest_22 : decode cX1_discardOldest 22 = .ok (.aload_n 0, 1) := by decide +kernel
theorem dX1_discardOldest_23 : decode cX1_discardOldest 23 = .ok (.getfield 11, 3) := by decide +kernel
theorem dX1_discardOldest_26 : decode cX1_discardOldest 26 = .ok (.iload_n 2, 1) := by decide +kernel
theorem dX1_discardOldest_27 : decode cX1_discardOldest 27 = .ok (.aaload, 1) := by decide +kernel
theorem dX1_discardOldest_28 : decode cX1_discardOldest 28 = .ok (.aastore, 1) := by decide +kernel
theorem dX1_discardOldest_29 : decode cX1_discardOldest 29 = .ok (.iinc 2 1, 3) := by decide +kernel
theorem dX1_discardOldest_32 : decode cX1_discardOldest 32 = .ok (.goto (-23), 3) := by decide +kernel
theorem dX1_discardOldest_35 : decode cX1_discardOldest 35 = .ok (.aload_n 0, 1) := by decide +kernel
theorem dX1_discardOldest_36 : decode cX1_discardOldest 36 = .ok (.getfield 11, 3) := by decide +kernel
theorem dX1_discardOldest_39 : decode cX1_discardOldest 39 = .ok (.iconst 5, 1) := by decide +kernel
theorem dX1_discardOldest_40 : decode cX1_discardOldest 40 = .ok (.aload_n 1, 1) := by decide +kernel
theorem dX1_discardOldest_41 : decode cX1_discardOldest 41 = .ok (.aastore, 1) := by decide +kernel
theorem dX1_discardOldest_42 : decode cX1_discardOldest 42 = .ok (.aload_n 0, 1) := by decide +kernel
theorem dX1_discardOldest_43 : decode cX1_discardOldest 43 = .ok (.iconst 5, 1) := by decide +kernel
theorem dX1_discardOldest_44 : decode cX1_discardOldest 44 = .ok (.putfield 17, 3) := by decide +kernel
theorem dX1_discardOldest_47 : decode cX1_discardOldest 47 = .ok (.return_, 1) := by decide +kernel
theorem dX1_restore_0 : decode cX1_restore 0 = .ok (.aload_n 0, 1) := by decide +kernel
theorem dX1_restore_1 : decode cX1_restore 1 = .ok (.getfield 17, 3) := by decide +kernel
theorem dX1_restore_4 : decode cX1_restore 4 = .ok (.ifCond .gt 4, 3) := by decide +kernel
theorem dX1_restore_7 : decode cX1_restore 7 = .ok (.return_, 1) := by decide +kernel
theorem dX1_restore_8 : decode cX1_restore 8 = .ok (.aload_n 0, 1) := by decide +kernel
theorem dX1_restore_9 : decode cX1_restore 9 = .ok (.dup, 1) := by decide +kernel
theorem dX1_restore_10 : decode cX1_restore 10 = .ok (.getfield 17, 3) := by decide +kernel
theorem dX1_restore_13 : decode cX1_restore 13 = .ok (.iconst 1, 1) := by decide +kernel
theorem dX1_restore_14 : decode cX1_restore 14 = .ok (.isub, 1) := by decide +kernel
theorem dX1_restore_15 : decode cX1_restore 15 = .ok (.putfield 17, 3) := by decide +kernel
theorem dX1_restore_18 : decode cX1_restore 18 = .ok (.aload_n 0, 1) := by decide +kernel
theorem dX1_restore_19 : decode cX1_restore 19 = .ok (.getfield 11, 3) := by decide +kernel
theorem dX1_restore_22 : decode cX1_restore 22 = .ok (.aload_n 0, 1) := by decide +kernel
theorem dX1_restore_23 : decode cX1_restore 23 = .ok (.getfield 17, 3) := by decide +kernel
theorem dX1_restore_26 : decode cX1_restore 26 = .ok (.aaload, 1) := by decide +kernel
theorem dX1_restore_27 : decode cX1_restore 27 = .ok (.astore_n 2, 1) := by decide +kernel
theorem dX1_restore_28 : decode cX1_restore 28 = .ok (.aload_n 2, 1) := by decide +kernel
theorem dX1_restore_29 : decode cX1_restore 29 = .ok (.ifnull 8, 3) := by decide +kernel
theorem dX1_restore_32 : decode cX1_restore 32 = .ok (.aload_n 1, 1) := by decide +kernel
theorem dX1_restore_33 : decode cX1_restore 33 = .ok (.aload_n 2, 1) := by decide +kernel
theorem dX1_restore_34 : decode cX1_restore 34 = .ok (.invokevirtual 25, 3) := by decide +kernel
theorem dX1_restore_37 : decode cX1_restore 37 = .ok (.return_, 1) := by decide +kernel
theorem dX2_init_0 : decode cX2_init 0 = .ok (.aload_n 0, 1) := by decide +kernel
theorem dX2_init_1 : decode cX2_init 1 = .ok (.invokespecial 3, 3) := by decide +kernel
theorem dX2_init_4 : decode cX2_init 4 = .ok (.aload_n 0, 1) := by decide +kernel
theorem dX2_init_5 : decode cX2_init 5 = .ok (.iconst 0, 1) := by decide +kernel
theorem dX2_init_6 : decode cX2_init 6 = .ok (.putfield 9, 3) := by decide +kernel
theorem dX2_init_9 : decode cX2_init 9 = .ok (.aload_n 0, 1) := by decide +kernel
theorem dX2_init_10 : decode cX2_init 10 = .ok (.bipush 63, 2) := by decide +kernel
theorem dX2_init_12 : decode cX2_init 12 = .ok (.putfield 15, 3) := by decide +kernel
theorem dX2_init_15 : decode cX2_init 15 = .ok (.aload_n 0, 1) := by decide +kernel
theorem dX2_init_16 : decode cX2_init 16 = .ok (.iconst 0, 1) := by decide +kernel
theorem dX2_init_17 : decode cX2_init 17 = .ok (.putfield 18, 3) := by decide +kernel
theorem dX2_init_20 : decode cX2_init 20 = .ok (.aload_n 0, 1) := by decide +kernel
theorem dX2_init_21 : decode cX2_init 21 = .ok (.iconst 3, 1) := by decide +kernel
theorem dX2_init_22 : decode cX2_init 22 = .ok (.putfield 21, 3) := by decide +kernel
theorem dX2_init_25 : decode cX2_init 25 = .ok (.aload_n 0, 1) := by decide +kernel
theorem dX2_init_26 : decode cX2_init 26 = .ok (.bipush 8, 2) := by decide +kernel
theorem dX2_init_28 : decode cX2_init 28 = .ok (.newarray .int, 2) := by decide +kernel
theorem dX2_init_30 : decode cX2_init 30 = .ok (.putfield 24, 3) := by decide +kernel
theorem dX2_init_33 : decode cX2_init 33 = .ok (.aload_n 0, 1) := by decide +kernel
theorem dX2_init_34 : decode cX2_init 34 = .ok (.bipush 8, 2) := by decide +kernel
theorem dX2_init_36 : decode cX2_init 36 = .ok (.newarray .int, 2) := by decide +kernel
theorem dX2_init_38 : decode cX2_init 38 = .ok (.putfield 28, 3) := by decide +kernel
theorem dX2_init_41 : decode cX2_init 41 = .ok (.aload_n 0, 1) := by decide +kernel
theorem dX2_init_42 : decode cX2_init 42 = .ok (.bipush 8, 2) := by decide +kernel
theorem dX2_init_44 : decode cX2_init 44 = .ok (.newarray .int, 2) := by decide +kernel
theorem dX2_init_46 : decode cX2_init 46 = .ok (.putfield 31, 3) := by decide +kernel
theorem dX2_init_49 : decode cX2_init 49 = .ok (.aload_n 0, 1) := by decide +kernel
theorem dX2_init_50 : decode cX2_init 50 = .ok (.bipush 48, 2) := by decide +kernel
theorem dX2_init_52 : decode cX2_init 52 = .ok (.newarray .int, 2) := by decide +kernel
theorem dX2_init_54 : decode cX2_init 54 = .ok (.putfield 34, 3) := by decide +kernel
theorem dX2_init_57 : decode cX2_init 57 = .ok (.aload_n 0, 1) := by decide +kernel
theorem dX2_init_58 : decode cX2_init 58 = .ok (.bipush 48, 2) := by decide +kernel
theorem dX2_init_60 : decode cX2_init 60 = .ok (.newarray .int, 2) := by decide +kernel
theorem dX2_init_62 : decode cX2_init 62 = .ok (.putfield 37, 3) := by decide +kernel
theorem dX2_init_65 : decode cX2_init 65 = .ok (.aload_n 0, 1) := by decide +kernel
theorem dX2_init_66 : decode cX2_init 66 = .ok (.bipush 6, 2) := by decide +kernel
theorem dX2_init_68 : decode cX2_init 68 = .ok (.newarray .int, 2) := by decide +kernel
theorem dX2_init_70 : decode cX2_init 70 = .ok (.putfield 40, 3) := by decide +kernel
theorem dX2_init_73 : decode cX2_init 73 = .ok (.aload_n 0, 1) := by decide +kernel
theorem dX2_init_74 : decode cX2_init 74 = .ok (.sipush 144, 3) := by decide +kernel
theorem dX2_init_77 : decode cX2_init 77 = .ok (.newarray .int, 2) := by decide +kernel
theorem dX2_init_79 : decode cX2_init 79 = .ok (.putfield 43, 3) := by decide +kernel
theorem dX2_init_82 : decode cX2_init 82 = .ok (.return_, 1) := by decide +kernel
theorem dX2_copyFrom_0 : decode cX2_copyFrom 0 = .ok (.aload_n 0, 1) := by decide +kernel
theorem dX2_copyFrom_1 : decode cX2_copyFrom 1 = .ok (.aload_n 1, 1) := by decide +kernel
theorem dX2_copyFrom_2 : decode cX2_copyFrom 2 = .ok (.getfield 9, 3) := by decide +kernel
theorem dX2_copyFrom_5 : decode cX2_copyFrom 5 = .ok (.putfield 9, 3) := by decide +kernel
theorem dX2_copyFrom_8 : decode cX2_copyFrom 8 = .ok (.aload_n 0, 1) := by decide +kernel
theorem dX2_copyFrom_9 : decode cX2_copyFrom 9 = .ok (.aload_n 1, 1) := by decide +kernel
theorem dX2_copyFrom_10 : decode cX2_copyFrom 10 = .ok (.getfield 15, 3) := by decide +kernel
theorem dX2_copyFrom_13 : decode cX2_copyFrom 13 = .ok (.putfield 15, 3) := by decide +kernel
theorem dX2_copyFrom_16 : decode cX2_copyFrom 16 = .ok (.aload_n 0, 1) := by decide +kernel
theorem dX2_copyFrom_17 : decode cX2_copyFrom 17 = .ok (.aload_n 1, 1) := by decide +kernel
theorem dX2_copyFrom_18 : decode cX2_copyFrom 18 = .ok (.getfield 18, 3) := by decide +kernel
theorem dX2_copyFrom_21 : decode cX2_copyFrom 21 = .ok (.putfield 18, 3) := by decide +kernel
theorem dX2_copyFrom_24 : decode cX2_copyFrom 24 = .ok (.aload_n 0, 1) := by decide +kernel
theorem dX2_copyFrom_25 : decode cX2_copyFrom 25 = .ok (.aload_n 1, 1) := by decide +kernel
theorem dX2_copyFrom_26 : decode cX2_copyFrom 26 = .ok (.getfield 21, 3) := by decide +kernel
theorem dX2_copyFrom_29 : decode cX2_copyFrom 29 = .ok (.putfield 21, 3) := by decide +kernel
theorem dX2_copyFrom_32 : decode cX2_copyFrom 32 = .ok (.aload_n 1, 1) := by decide +kernel
theorem dX2_copyFrom_33 : decode cX2_copyFrom 33 = .ok (.getfield 24, 3) := by decide +kernel
theorem dX2_copyFrom_36 : decode cX2_copyFrom 36 = .ok (.aload_n 0, 1) := by decide +kernel
theorem dX2_copyFrom_37 : decode cX2_copyFrom 37 = .ok (.getfield 24, 3) := by decide +kernel
theorem dX2_copyFrom_40 : decode cX2_copyFrom 40 = .ok (.invokestatic 46, 3) := by decide +kernel
theorem dX2_copyFrom_43 : decode cX2_copyFrom 43 = .ok (.aload_n 1, 1) := by decide +kernel
theorem dX2_copyFrom_44 : decode cX2_copyFrom 44 = .ok (.getfield 28, 3) := by decide +kernel
theorem dX2_copyFrom_47 : decode cX2_copyFrom 47 = .ok (.aload_n 0, 1) := by decide +kernel
theorem dX2_copyFrom_48 : decode cX2_copyFrom 48 = .ok (.getfield 28, 3) := by decide +kernel
theorem dX2_copyFrom_51 : decode cX2_copyFrom 51 = .ok (.invokestatic 46, 3) := by decide +kernel
theorem dX2_copyFrom_54 : decode cX2_copyFrom 54 = .ok (.aload_n 1, 1) := by decide +kernel
theorem dX2_copyFrom_55 : decode cX2_copyFrom 55 = .ok (.getfield 31, 3) := by decide +kernel
theorem dX2_copyFrom_58 : decode cX2_copyFrom 58 = .ok (.aload_n 0, 1) := by decide +kernel
theorem dX2_copyFrom_59 : decode cX2_copyFrom 59 = .ok (.getfield 31, 3) := by decide +kernel
theorem dX2_copyFrom_62 : decode cX2_copyFrom 62 = .ok (.invokestatic 46, 3) := by decide +kernel
theorem dX2_copyFrom_65 : decode cX2_copyFrom 65 = .ok (.aload_n 1, 1) := by decide +kernel
theorem dX2_copyFrom_66 : decode cX2_copyFrom 66 = .ok (.getfield 34, 3) := by decide +kernel
theorem dX2_copyFrom_69 : decode cX2_copyFrom 69 = .ok (.aload_n 0, 1) := by decide +kernel
theorem dX2_copyFrom_70 : decode cX2_copyFrom 70 = .ok (.getfield 34, 3) := by decide +kernel
theorem dX2_copyFrom_73 : decode cX2_copyFrom 73 = .ok (.invokestatic 46, 3) := by decide +kernel
theorem dX2_copyFrom_76 : decode cX2_copyFrom 76 = .ok (.aload_n 1, 1) := by decide +kernel
theorem dX2_copyFrom_77 : decode cX2_copyFrom 77 = .ok (.getfield 37, 3) := by decide +kernel
theorem dX2_copyFrom_80 : decode cX2_copyFrom 80 = .ok (.aload_n 0, 1) := by decide +kernel
theorem dX2_copyFrom_81 : decode cX2_copyFrom 81 = .ok (.getfield 37, 3) := by decide +kernel
theorem dX2_copyFrom_84 : decode cX2_copyFrom 84 = .ok (.invokestatic 46, 3) := by decide +kernel
theorem dX2_copyFrom_87 : decode cX2_copyFrom 87 = .ok (.aload_n 1, 1) := by decide +kernel
theorem dX2_copyFrom_88 : decode cX2_copyFrom 88 = .ok (.getfield 40, 3) := by decide +kernel
theorem dX2_copyFrom_91 : decode cX2_copyFrom 91 = .ok (.aload_n 0, 1) := by decide +kernel
theorem dX2_copyFrom_92 : decode cX2_copyFrom 92 = .ok (.getfield 40, 3) := by decide +kernel
theorem dX2_copyFrom_95 : decode cX2_copyFrom 95 = .ok (.invokestatic 46, 3) := by decide +kernel
theorem dX2_copyFrom_98 : decode cX2_copyFrom 98 = .ok (.aload_n 1, 1) := by decide +kernel
theorem dX2_copyFrom_99 : decode cX2_copyFrom 99 = .ok (.getfield 43, 3) := by decide +kernel
theorem dX2_copyFrom_102 : decode cX2_copyFrom 102 = .ok (.aload_n 0, 1) := by decide +kernel
theorem dX2_copyFrom_103 : decode cX2_copyFrom 103 = .ok (.getfield 43, 3) := by decide +kernel
theorem dX2_copyFrom_106 : decode cX2_copyFrom 106 = .ok (.invokestatic 46, 3) := by decide +kernel
theorem dX2_copyFrom_109 : decode cX2_copyFrom 109 = .ok (.return_, 1) := by decide +kernel
theorem dX2_copyRow_0 : decode cX2_copyRow 0 = .ok (.aload_n 0, 1) := by decide +kernel
theorem dX2_copyRow_1 : decode cX2_copyRow 1 = .ok (.iconst 0, 1) := by decide +kernel
theorem dX2_copyRow_2 : decode cX2_copyRow 2 = .ok (.aload_n 1, 1) := by decide +kernel
theorem dX2_copyRow_3 : decode cX2_copyRow 3 = .ok (.iconst 0, 1) := by decide +kernel
theorem dX2_copyRow_4 : decode cX2_copyRow 4 = .ok (.aload_n 0, 1) := by decide +kernel
theorem dX2_copyRow_5 : decode cX2_copyRow 5 = .ok (.arraylength, 1) := by decide +kernel
theorem dX2_copyRow_6 : decode cX2_copyRow 6 = .ok (.aload_n 1, 1) := by decide +kernel
theorem dX2_copyRow_7 : decode cX2_copyRow 7 = .ok (.arraylength, 1) := by decide +kernel
theorem dX2_copyRow_8 : decode cX2_copyRow 8 = .ok (.invokestatic 50, 3) := by decide +kernel
theorem dX2_copyRow_11 : decode cX2_copyRow 11 = .ok (.invokestatic 56, 3) := by decide +kernel
theorem dX2_copyRow_14 : decode cX2_copyRow 14 = .ok (.return_, 1) := by decide +kernel
theorem dX2_dealCount_0 : decode cX2_dealCount 0 = .ok (.aload_n 0, 1) := by decide +kernel
theorem dX2_dealCount_1 : decode cX2_dealCount 1 = .ok (.getfield 9, 3) := by decide +kernel
theorem dX2_dealCount_4 : decode cX2_dealCount 4 = .ok (.ireturn, 1) := by decide +kernel
theorem dX2_hasDeal_0 : decode cX2_hasDeal 0 = .ok (.iload_n 1, 1) := by decide +kernel
theorem dX2_hasDeal_1 : decode cX2_hasDeal 1 = .ok (.ifCond .lt 15, 3) := by decide +kernel
theorem dX2_hasDeal_4 : decode cX2_hasDeal 4 = .ok (.iload_n 1, 1) := by decide +kernel
theorem dX2_hasDeal_5 : decode cX2_hasDeal 5 = .ok (.aload_n 0, 1) := by decide +kernel
theorem dX2_hasDeal_6 : decode cX2_hasDeal 6 = .ok (.getfield 9, 3) := by decide +kernel
theorem dX2_hasDeal_9 : decode cX2_hasDeal 9 = .ok (.if_icmp .ge 7, 3) := by decide +kernel
theorem dX2_hasDeal_12 : decode cX2_hasDeal 12 = .ok (.iconst 1, 1) := by decide +kernel
theorem dX2_hasDeal_13 : decode cX2_hasDeal 13 = .ok (.goto 4, 3) := by decide +kernel
theorem dX2_hasDeal_16 : decode cX2_hasDeal 16 = .ok (.iconst 0, 1) := by decide +kernel
theorem dX2_hasDeal_17 : decode cX2_hasDeal 17 = .ok (.ireturn, 1) := by decide +kernel
theorem dX2_isAwake_0 : decode cX2_isAwake 0 = .ok (.iload_n 1, 1) := by decide +kernel
theorem dX2_isAwake_1 : decode cX2_isAwake 1 = .ok (.ifCond .lt 24, 3) := by decide +kernel
theorem dX2_isAwake_4 : decode cX2_isAwake 4 = .ok (.iload_n 1, 1) := by decide +kernel
theorem dX2_isAwake_5 : decode cX2_isAwake 5 = .ok (.bipush 6, 2) := by decide +kernel
theorem dX2_isAwake_7 : decode cX2_isAwake 7 = .ok (.if_icmp .ge 18, 3) := by decide +kernel
theorem dX2_isAwake_10 : decode cX2_isAwake 10 = .ok (.aload_n 0, 1) := by decide +kernel
theorem dX2_isAwake_11 : decode cX2_isAwake 11 = .ok (.getfield 15, 3) := by decide +kernel
theorem dX2_isAwake_14 : decode cX2_isAwake 14 = .ok (.iload_n 1, 1) := by decide +kernel
theorem dX2_isAwake_15 : decode cX2_isAwake 15 = .ok (.ishr, 1) := by decide +kernel
theorem dX2_isAwake_16 : decode cX2_isAwake 16 = .ok (.iconst 1, 1) := by decide +kernel
theorem dX2_isAwake_17 : decode cX2_isAwake 17 = .ok (.iand, 1) := by decide +kernel
theorem dX2_isAwake_18 : decode cX2_isAwake 18 = .ok (.ifCond .eq 7, 3) := by decide +kernel
theorem dX2_isAwake_21 : decode cX2_isAwake 21 = .ok (.iconst 1, 1) := by decide +kernel
theorem dX2_isAwake_22 : decode cX2_isAwake 22 = .ok (.goto 4, 3) := by decide +kernel
theorem dX2_isAwake_25 : decode cX2_isAwake 25 = .ok (.iconst 0, 1) := by decide +kernel
theorem dX2_isAwake_26 : decode cX2_isAwake 26 = .ok (.ireturn, 1) := by decide +kernel
theorem dX2_leaderOf_0 : decode cX2_leaderOf 0 = .ok (.aload_n 0, 1) := by decide +kernel
theorem dX2_leaderOf_1 : decode cX2_leaderOf 1 = .ok (.iload_n 1, 1) := by decide +kernel
theorem dX2_leaderOf_2 : decode cX2_leaderOf 2 = .ok (.invokevirtual 62, 3) := by decide +kernel
theorem dX2_leaderOf_5 : decode cX2_leaderOf 5 = .ok (.ifCond .eq 12, 3) := by decide +kernel
theorem dX2_leaderOf_8 : decode cX2_leaderOf 8 = .ok (.aload_n 0, 1) := by decide +kernel
theorem dX2_leaderOf_9 : decode cX2_leaderOf 9 = .ok (.getfield 24, 3) := by decide +kernel
theorem dX2_leaderOf_12 : decode cX2_leaderOf 12 = .ok (.iload_n 1, 1) := by decide +kernel
theorem dX2_leaderOf_13 : decode cX2_leaderOf 13 = .ok (.iaload, 1) := by decide +kernel
theorem dX2_leaderOf_14 : decode cX2_leaderOf 14 = .ok (.goto 4, 3) := by decide +kernel
theorem dX2_leaderOf_17 : decode cX2_leaderOf 17 = .ok (.iconst (-1), 1) := by decide +kernel
theorem dX2_leaderOf_18 : decode cX2_leaderOf 18 = .ok (.ireturn, 1) := by decide +kernel
theorem dX2_decisionOf_0 : decode cX2_decisionOf 0 = .ok (.aload_n 0, 1) := by decide +kernel
theorem dX2_decisionOf_1 : decode cX2_decisionOf 1 = .ok (.iload_n 1, 1) := by decide +kernel
theorem dX2_decisionOf_2 : decode cX2_decisionOf 2 = .ok (.invokevirtual 62, 3) := by decide +kernel
theorem dX2_decisionOf_5 : decode cX2_decisionOf 5 = .ok (.ifCond .eq 12, 3) := by decide +kernel
theorem dX2_decisionOf_8 : decode cX2_decisionOf 8 = .ok (.aload_n 0, 1) := by decide +kernel
theorem dX2_decisionOf_9 : decode cX2_decisionOf 9 = .ok (.getfield 31, 3) := by decide +kernel
theorem dX2_decisionOf_12 : decode cX2_decisionOf 12 = .ok (.iload_n 1, 1) := by decide +kernel
theorem dX2_decisionOf_13 : decode cX2_decisionOf 13 = .ok (.iaload, 1) := by decide +kernel
theorem dX2_decisionOf_14 : decode cX2_decisionOf 14 = .ok (.goto 4, 3) := by decide +kernel
theorem dX2_decisionOf_17 : decode cX2_decisionOf 17 = .ok (.iconst (-1), 1) := by decide +kernel
theorem dX2_decisionOf_18 : decode cX2_decisionOf 18 = .ok (.ireturn, 1) := by decide +kernel
theorem dX2_stateOf_0 : decode cX2_stateOf 0 = .ok (.iload_n 1, 1) := by decide +kernel
theorem dX2_stateOf_1 : decode cX2_stateOf 1 = .ok (.ifCond .lt 25, 3) := by decide +kernel
theorem dX2_stateOf_4 : decode cX2_stateOf 4 = .ok (.iload_n 1, 1) := by decide +kernel
theorem dX2_stateOf_5 : decode cX2_stateOf 5 = .ok (.aload_n 0, 1) := by decide +kernel
theorem dX2_stateOf_6 : decode cX2_stateOf 6 = .ok (.getfield 9, 3) := by decide +kernel
theorem dX2_stateOf_9 : decode cX2_stateOf 9 = .ok (.if_icmp .ge 17, 3) := by decide +kernel
theorem dX2_stateOf_12 : decode cX2_stateOf 12 = .ok (.iload_n 2, 1) := by decide +kernel
theorem dX2_stateOf_13 : decode cX2_stateOf 13 = .ok (.ifCond .lt 13, 3) := by decide +kernel
theorem dX2_stateOf_16 : decode cX2_stateOf 16 = .ok (.iload_n 2, 1) := by decide +kernel
theorem dX2_stateOf_17 : decode cX2_stateOf 17 = .ok (.bipush 6, 2) := by decide +kernel
theorem dX2_stateOf_19 : decode cX2_stateOf 19 = .ok (.if_icmp .ge 7, 3) := by decide +kernel
theorem dX2_stateOf_22 : decode cX2_stateOf 22 = .ok (.iconst 1, 1) := by decide +kernel
theorem dX2_stateOf_23 : decode cX2_stateOf 23 = .ok (.goto 4, 3) := by decide +kernel
theorem dX2_stateOf_26 : decode cX2_stateOf 26 = .ok (.iconst 0, 1) := by decide +kernel
theorem dX2_stateOf_27 : decode cX2_stateOf 27 = .ok (.istore_n 3, 1) := by decide +kernel
theorem dX2_stateOf_28 : decode cX2_stateOf 28 = .ok (.iload_n 3, 1) := by decide +kernel
theorem dX2_stateOf_29 : decode cX2_stateOf 29 = .ok (.ifCond .eq 17, 3) := by decide +kernel
theorem dX2_stateOf_32 : decode cX2_stateOf 32 = .ok (.aload_n 0, 1) := by decide +kernel
theorem dX2_stateOf_33 : decode cX2_stateOf 33 = .ok (.getfield 34, 3) := by decide +kernel
theorem dX2_stateOf_36 : decode cX2_stateOf 36 = .ok (.iload_n 1, 1) := by decide +kernel
theorem dX2_stateOf_37 : decode cX2_stateOf 37 = .ok (.bipush 6, 2) := by decide +kernel
theorem dX2_stateOf_39 : decode cX2_stateOf 39 = .ok (.imul, 1) := by decide +kernel
theorem dX2_stateOf_40 : decode cX2_stateOf 40 = .ok (.iload_n 2, 1) := by decide +kernel
theorem dX2_stateOf_41 : decode cX2_stateOf 41 = .ok (.iadd, 1) := by decide +kernel
theorem dX2_stateOf_42 : decode cX2_stateOf 42 = .ok (.iaload, 1) := by decide +kernel
theorem dX2_stateOf_43 : decode cX2_stateOf 43 = .ok (.goto 4, 3) := by decide +kernel
theorem dX2_stateOf_46 : decode cX2_stateOf 46 = .ok (.iconst (-1), 1) := by decide +kernel
theorem dX2_stateOf_47 : decode cX2_stateOf 47 = .ok (.ireturn, 1) := by decide +kernel
theorem dX2_patienceOf_0 : decode cX2_patienceOf 0 = .ok (.aload_n 0, 1) := by decide +kernel
theorem dX2_patienceOf_1 : decode cX2_patienceOf 1 = .ok (.iload_n 1, 1) := by decide +kernel
theorem dX2_patienceOf_2 : decode cX2_patienceOf 2 = .ok (.iload_n 2, 1) := by decide +kernel
theorem dX2_patienceOf_3 : decode cX2_patienceOf 3 = .ok (.invokevirtual 66, 3) := by decide +kernel
theorem dX2_patienceOf_6 : decode cX2_patienceOf 6 = .ok (.iconst 1, 1) := by decide +kernel
theorem dX2_patienceOf_7 : decode cX2_patienceOf 7 = .ok (.if_icmp .ne 17, 3) := by decide +kernel
theorem dX2_patienceOf_10 : decode cX2_patienceOf 10 = .ok (.aload_n 0, 1) := by decide +kernel
theorem dX2_patienceOf_11 : decode cX2_patienceOf 11 = .ok (.getfield 37, 3) := by decide +kernel
theorem dX2_patienceOf_14 : decode cX2_patienceOf 14 = .ok (.iload_n 1, 1) := by decide +kernel
theorem dX2_patienceOf_15 : decode cX2_patienceOf 15 = .ok (.bipush 6, 2) := by decide +kernel
theorem dX2_patienceOf_17 : decode cX2_patienceOf 17 = .ok (.imul, 1) := by decide +kernel
theorem dX2_patienceOf_18 : decode cX2_patienceOf 18 = .ok (.iload_n 2, 1) := by decide +kernel
theorem dX2_patienceOf_19 : decode cX2_patienceOf 19 = .ok (.iadd, 1) := by decide +kernel
theorem dX2_patienceOf_20 : decode cX2_patienceOf 20 = .ok (.iaload, 1) := by decide +kernel
theorem dX2_patienceOf_21 : decode cX2_patienceOf 21 = .ok (.goto 4, 3) := by decide +kernel
theorem dX2_patienceOf_24 : decode cX2_patienceOf 24 = .ok (.iconst (-1), 1) := by decide +kernel
theorem dX2_patienceOf_25 : decode cX2_patienceOf 25 = .ok (.ireturn, 1) := by decide +kernel
theorem dX2_hasEnded_0 : decode cX2_hasEnded 0 = .ok (.aload_n 0, 1) := by decide +kernel
theorem dX2_hasEnded_1 : decode cX2_hasEnded 1 = .ok (.iload_n 1, 1) := by decide +kernel
theorem dX2_hasEnded_2 : decode cX2_hasEnded 2 = .ok (.iload_n 2, 1) := by decide +kernel
theorem dX2_hasEnded_3 : decode cX2_hasEnded 3 = .ok (.invokevirtual 66, 3) := by decide +kernel
theorem dX2_hasEnded_6 : decode cX2_hasEnded 6 = .ok (.invokestatic 69, 3) := by decide +kernel
theorem dX2_hasEnded_9 : decode cX2_hasEnded 9 = .ok (.ireturn, 1) := by decide +kernel
theorem dX2_entriesOf_0 : decode cX2_entriesOf 0 = .ok (.iload_n 1, 1) := by decide +kernel
theorem dX2_entriesOf_1 : decode cX2_entriesOf 1 = .ok (.invokestatic 72, 3) := by decide +kernel
theorem dX2_entriesOf_4 : decode cX2_entriesOf 4 = .ok (.ifCond .eq 12, 3) := by decide +kernel
theorem dX2_entriesOf_7 : decode cX2_entriesOf 7 = .ok (.aload_n 0, 1) := by decide +kernel
theorem dX2_entriesOf_8 : decode cX2_entriesOf 8 = .ok (.getfield 40, 3) := by decide +kernel
theorem dX2_entriesOf_11 : decode cX2_entriesOf 11 = .ok (.iload_n 1, 1) := by decide +kernel
theorem dX2_entriesOf_12 : decode cX2_entriesOf 12 = .ok (.iaload, 1) := by decide +kernel
theorem dX2_entriesOf_13 : decode cX2_entriesOf 13 = .ok (.goto 4, 3) := by decide +kernel
theorem dX2_entriesOf_16 : decode cX2_entriesOf 16 = .ok (.iconst 0, 1) := by decide +kernel
theorem dX2_entriesOf_17 : decode cX2_entriesOf 17 = .ok (.ireturn, 1) := by decide +kernel
theorem dX2_entryAt_0 : decode cX2_entryAt 0 = .ok (.iload_n 2, 1) := by decide +kernel
theorem dX2_entryAt_1 : decode cX2_entryAt 1 = .ok (.ifCond .lt 26, 3) := by decide +kernel
theorem dX2_entryAt_4 : decode cX2_entryAt 4 = .ok (.iload_n 2, 1) := by decide +kernel
theorem dX2_entryAt_5 : decode cX2_entryAt 5 = .ok (.aload_n 0, 1) := by decide +kernel
theorem dX2_entryAt_6 : decode cX2_entryAt 6 = .ok (.iload_n 1, 1) := by decide +kernel
theorem dX2_entryAt_7 : decode cX2_entryAt 7 = .ok (.invokevirtual 75, 3) := by decide +kernel
theorem dX2_entryAt_10 : decode cX2_entryAt 10 = .ok (.if_icmp .ge 17, 3) := by decide +kernel
theorem dX2_entryAt_13 : decode cX2_entryAt 13 = .ok (.aload_n 0, 1) := by decide +kernel
theorem dX2_entryAt_14 : decode cX2_entryAt 14 = .ok (.getfield 43, 3) := by decide +kernel
theorem dX2_entryAt_17 : decode cX2_entryAt 17 = .ok (.iload_n 1, 1) := by decide +kernel
theorem dX2_entryAt_18 : decode cX2_entryAt 18 = .ok (.bipush 24, 2) := by decide +kernel
theorem dX2_entryAt_20 : decode cX2_entryAt 20 = .ok (.imul, 1) := by decide +kernel
theorem dX2_entryAt_21 : decode cX2_entryAt 21 = .ok (.iload_n 2, 1) := by decide +kernel
theorem dX2_entryAt_22 : decode cX2_entryAt 22 = .ok (.iadd, 1) := by decide +kernel
theorem dX2_entryAt_23 : decode cX2_entryAt 23 = .ok (.iaload, 1) := by decide +kernel
theorem dX2_entryAt_24 : decode cX2_entryAt 24 = .ok (.goto 4, 3) := by decide +kernel
theorem dX2_entryAt_27 : decode cX2_entryAt 27 = .ok (.iconst (-1), 1) := by decide +kernel
theorem dX2_entryAt_28 : decode cX2_entryAt 28 = .ok (.ireturn, 1) := by decide +kernel
theorem dX2_itemsHeldBy_0 : decode cX2_itemsHeldBy 0 = .ok (.iconst 0, 1) := by decide +kernel
theorem dX2_itemsHeldBy_1 : decode cX2_itemsHeldBy 1 = .ok (.istore_n 2, 1) := by decide +kernel
theorem dX2_itemsHeldBy_2 : decode cX2_itemsHeldBy 2 = .ok (.iconst 0, 1) := by decide +kernel
theorem dX2_itemsHeldBy_3 : decode cX2_itemsHeldBy 3 = .ok (.istore_n 3, 1) := by decide +kernel
theorem dX2_itemsHeldBy_4 : decode cX2_itemsHeldBy 4 = .ok (.iload_n 3, 1) := by decide +kernel
theorem dX2_itemsHeldBy_5 : decode cX2_itemsHeldBy 5 = .ok (.aload_n 0, 1) := by decide +kernel
theorem dX2_itemsHeldBy_6 : decode cX2_itemsHeldBy 6 = .ok (.getfield 9, 3) := by decide +kernel
theorem dX2_itemsHeldBy_9 : decode cX2_itemsHeldBy 9 = .ok (.if_icmp .ge 30, 3) := by decide +kernel
theorem dX2_itemsHeldBy_12 : decode cX2_itemsHeldBy 12 = .ok (.aload_n 0, 1) := by decide +kernel
theorem dX2_itemsHeldBy_13 : decode cX2_itemsHeldBy 13 = .ok (.iload_n 3, 1) := by decide +kernel
theorem dX2_itemsHeldBy_14 : decode cX2_itemsHeldBy 14 = .ok (.iload_n 1, 1) := by decide +kernel
theorem dX2_itemsHeldBy_15 : decode cX2_itemsHeldBy 15 = .ok (.invokevirtual 66, 3) := by decide +kernel
theorem dX2_itemsHeldBy_18 : decode cX2_itemsHeldBy 18 = .ok (.iconst 1, 1) := by decide +kernel
theorem dX2_itemsHeldBy_19 : decode cX2_itemsHeldBy 19 = .ok (.if_icmp .ne 14, 3) := by decide +kernel
theorem dX2_itemsHeldBy_22 : decode cX2_itemsHeldBy 22 = .ok (.iload_n 2, 1) := by decide +kernel
theorem dX2_itemsHeldBy_23 : decode cX2_itemsHeldBy 23 = .ok (.iconst 1, 1) := by decide +kernel
theorem dX2_itemsHeldBy_24 : decode cX2_itemsHeldBy 24 = .ok (.aload_n 0, 1) := by decide +kernel
theorem dX2_itemsHeldBy_25 : decode cX2_itemsHeldBy 25 = .ok (.getfield 28, 3) := by decide +kernel
theorem dX2_itemsHeldBy_28 : decode cX2_itemsHeldBy 28 = .ok (.iload_n 3, 1) := by decide +kernel
theorem dX2_itemsHeldBy_29 : decode cX2_itemsHeldBy 29 = .ok (.iaload, 1) := by decide +kernel
theorem dX2_itemsHeldBy_30 : decode cX2_itemsHeldBy 30 = .ok (.ishl, 1) := by decide +kernel
theorem dX2_itemsHeldBy_31 : decode cX2_itemsHeldBy 31 = .ok (.ior, 1) := by decide +kernel
theorem dX2_itemsHeldBy_32 : decode cX2_itemsHeldBy 32 = .ok (.istore_n 2, 1) := by decide +kernel
theorem dX2_itemsHeldBy_33 : decode cX2_itemsHeldBy 33 = .ok (.iinc 3 1, 3) := by decide +kernel
theorem dX2_itemsHeldBy_36 : decode cX2_itemsHeldBy 36 = .ok (.goto (-32), 3) := by decide +kernel
theorem dX2_itemsHeldBy_39 : decode cX2_itemsHeldBy 39 = .ok (.iload_n 2, 1) := by decide +kernel
theorem dX2_itemsHeldBy_40 : decode cX2_itemsHeldBy 40 = .ok (.ireturn, 1) := by decide +kernel
theorem dX2_isEnd_0 : decode cX2_isEnd 0 = .ok (.iload_n 0, 1) := by decide +kernel
theorem dX2_isEnd_1 : decode cX2_isEnd 1 = .ok (.iconst 2, 1) := by decide +kernel
theorem dX2_isEnd_2 : decode cX2_isEnd 2 = .ok (.if_icmp .eq 8, 3) := by decide +kernel
theorem dX2_isEnd_5 : decode cX2_isEnd 5 = .ok (.iload_n 0, 1) := by decide +kernel
theorem dX2_isEnd_6 : decode cX2_isEnd 6 = .ok (.iconst 3, 1) := by decide +kernel
theorem dX2_isEnd_7 : decode cX2_isEnd 7 = .ok (.if_icmp .ne 7, 3) := by decide +kernel
theorem dX2_isEnd_10 : decode cX2_isEnd 10 = .ok (.iconst 1, 1) := by decide +kernel
theorem dX2_isEnd_11 : decode cX2_isEnd 11 = .ok (.goto 4, 3) := by decide +kernel
theorem dX2_isEnd_14 : decode cX2_isEnd 14 = .ok (.iconst 0, 1) := by decide +kernel
theorem dX2_isEnd_15 : decode cX2_isEnd 15 = .ok (.ireturn, 1) := by decide +kernel
theorem dX2_canBegin_0 : decode cX2_canBegin 0 = .ok (.iload_n 2, 1) := by decide +kernel
theorem dX2_canBegin_1 : decode cX2_canBegin 1 = .ok (.iconst 1, 1) := by decide +kernel
theorem dX2_canBegin_2 : decode cX2_canBegin 2 = .ok (.iload_n 1, 1) := by decide +kernel
theorem dX2_canBegin_3 : decode cX2_canBegin 3 = .ok (.ishl, 1) := by decide +kernel
theorem dX2_canBegin_4 : decode cX2_canBegin 4 = .ok (.ior, 1) := by decide +kernel
theorem dX2_canBegin_5 : decode cX2_canBegin 5 = .ok (.istore_n 3, 1) := by decide +kernel
theorem dX2_canBegin_6 : decode cX2_canBegin 6 = .ok (.aload_n 0, 1) := by decide +kernel
theorem dX2_canBegin_7 : decode cX2_canBegin 7 = .ok (.getfield 9, 3) := by decide +kernel
theorem dX2_canBegin_10 : decode cX2_canBegin 10 = .ok (.bipush 8, 2) := by decide +kernel
theorem dX2_canBegin_12 : decode cX2_canBegin 12 = .ok (.if_icmp .ge 17, 3) := by decide +kernel
theorem dX2_canBegin_15 : decode cX2_canBegin 15 = .ok (.aload_n 0, 1) := by decide +kernel
theorem dX2_canBegin_16 : decode cX2_canBegin 16 = .ok (.getfield 15, 3) := by decide +kernel
theorem dX2_canBegin_19 : decode cX2_canBegin 19 = .ok (.iload_n 3, 1) := by decide +kernel
theorem dX2_canBegin_20 : decode cX2_canBegin 20 = .ok (.iand, 1) := by decide +kernel
theorem dX2_canBegin_21 : decode cX2_canBegin 21 = .ok (.iload_n 3, 1) := by decide +kernel
theorem dX2_canBegin_22 : decode cX2_canBegin 22 = .ok (.if_icmp .ne 7, 3) := by decide +kernel
theorem dX2_canBegin_25 : decode cX2_canBegin 25 = .ok (.iconst 1, 1) := by decide +kernel
theorem dX2_canBegin_26 : decode cX2_canBegin 26 = .ok (.goto 4, 3) := by decide +kernel
theorem dX2_canBegin_29 : decode cX2_canBegin 29 = .ok (.iconst 0, 1) := by decide +kernel
theorem dX2_canBegin_30 : decode cX2_canBegin 30 = .ok (.ireturn, 1) := by decide +kernel
theorem dX2_canVote_0 : decode cX2_canVote 0 = .ok (.aload_n 0, 1) := by decide +kernel
theorem dX2_canVote_1 : decode cX2_canVote 1 = .ok (.iload_n 2, 1) := by decide +kernel
theorem dX2_canVote_2 : decode cX2_canVote 2 = .ok (.invokevirtual 79, 3) := by decide +kernel
theorem dX2_canVote_5 : decode cX2_canVote 5 = .ok (.ifCond .eq 16, 3) := by decide +kernel
theorem dX2_canVote_8 : decode cX2_canVote 8 = .ok (.aload_n 0, 1) := by decide +kernel
theorem dX2_canVote_9 : decode cX2_canVote 9 = .ok (.iload_n 1, 1) := by decide +kernel
theorem dX2_canVote_10 : decode cX2_canVote 10 = .ok (.iload_n 2, 1) := by decide +kernel
theorem dX2_canVote_11 : decode cX2_canVote 11 = .ok (.invokevirtual 66, 3) := by decide +kernel
theorem dX2_canVote_14 : decode cX2_canVote 14 = .ok (.ifCond .ne 7, 3) := by decide +kernel
theorem dX2_canVote_17 : decode cX2_canVote 17 = .ok (.iconst 1, 1) := by decide +kernel
theorem dX2_canVote_18 : decode cX2_canVote 18 = .ok (.goto 4, 3) := by decide +kernel
theorem dX2_canVote_21 : decode cX2_canVote 21 = .ok (.iconst 0, 1) := by decide +kernel
theorem dX2_canVote_22 : decode cX2_canVote 22 = .ok (.ireturn, 1) := by decide +kernel
theorem dX2_canDecide_0 : decode cX2_canDecide 0 = .ok (.aload_n 0, 1) := by decide +kernel
theorem dX2_canDecide_1 : decode cX2_canDecide 1 = .ok (.aload_n 0, 1) := by decide +kernel
theorem dX2_canDecide_2 : decode cX2_canDecide 2 = .ok (.iload_n 1, 1) := by decide +kernel
theorem dX2_canDecide_3 : decode cX2_canDecide 3 = .ok (.invokevirtual 82, 3) := by decide +kernel
theorem dX2_canDecide_6 : decode cX2_canDecide 6 = .ok (.invokevirtual 79, 3) := by decide +kernel
theorem dX2_canDecide_9 : decode cX2_canDecide 9 = .ok (.ifCond .eq 15, 3) := by decide +kernel
theorem dX2_canDecide_12 : decode cX2_canDecide 12 = .ok (.aload_n 0, 1) := by decide +kernel
theorem dX2_canDecide_13 : decode cX2_canDecide 13 = .ok (.iload_n 1, 1) := by decide +kernel
theorem dX2_canDecide_14 : decode cX2_canDecide 14 = .ok (.invokevirtual 85, 3) := by decide +kernel
theorem dX2_canDecide_17 : decode cX2_canDecide 17 = .ok (.ifCond .ne 7, 3) := by decide +kernel
theorem dX2_canDecide_20 : decode cX2_canDecide 20 = .ok (.iconst 1, 1) := by decide +kernel
theorem dX2_canDecide_21 : decode cX2_canDecide 21 = .ok (.goto 4, 3) := by decide +kernel
theorem dX2_canDecide_24 : decode cX2_canDecide 24 = .ok (.iconst 0, 1) := by decide +kernel
theorem dX2_canDecide_25 : decode cX2_canDecide 25 = .ok (.ireturn, 1) := by decide +kernel
theorem dX2_canTell_0 : decode cX2_canTell 0 = .ok (.aload_n 0, 1) := by decide +kernel
theorem dX2_canTell_1 : decode cX2_canTell 1 = .ok (.iload_n 2, 1) := by decide +kernel
theorem dX2_canTell_2 : decode cX2_canTell 2 = .ok (.invokevirtual 79, 3) := by decide +kernel
theorem dX2_canTell_5 : decode cX2_canTell 5 = .ok (.ifCond .eq 19, 3) := by decide +kernel
theorem dX2_canTell_8 : decode cX2_canTell 8 = .ok (.aload_n 0, 1) := by decide +kernel
theorem dX2_canTell_9 : decode cX2_canTell 9 = .ok (.aload_n 0, 1) := by decide +kernel
theorem dX2_canTell_10 : decode cX2_canTell 10 = .ok (.iload_n 1, 1) := by decide +kernel
theorem dX2_canTell_11 : decode cX2_canTell 11 = .ok (.invokevirtual 82, 3) := by decide +kernel
theorem dX2_canTell_14 : decode cX2_canTell 14 = .ok (.invokevirtual 79, 3) := by decide +kernel
theorem dX2_canTell_17 : decode cX2_canTell 17 = .ok (.ifCond .eq 7, 3) := by decide +kernel
theorem dX2_canTell_20 : decode cX2_canTell 20 = .ok (.iconst 1, 1) := by decide +kernel
theorem dX2_canTell_21 : decode cX2_canTell 21 = .ok (.goto 4, 3) := by decide +kernel
theorem dX2_canTell_24 : decode cX2_canTell 24 = .ok (.iconst 0, 1) := by decide +kernel
theorem dX2_canTell_25 : decode cX2_canTell 25 = .ok (.istore_n 3, 1) := by decide +kernel
theorem dX2_canTell_26 : decode cX2_canTell 26 = .ok (.iload_n 3, 1) := by decide +kernel
theorem dX2_canTell_27 : decode cX2_canTell 27 = .ok (.ifCond .eq 28, 3) := by decide +kernel
theorem dX2_canTell_30 : decode cX2_canTell 30 = .ok (.aload_n 0, 1) := by decide +kernel
theorem dX2_canTell_31 : decode cX2_canTell 31 = .ok (.iload_n 1, 1) := by decide +kernel
theorem dX2_canTell_32 : decode cX2_canTell 32 = .ok (.iload_n 2, 1) := by decide +kernel
theorem dX2_canTell_33 : decode cX2_canTell 33 = .ok (.invokevirtual 66, 3) := by decide +kernel
theorem dX2_canTell_36 : decode cX2_canTell 36 = .ok (.iconst (-1), 1) := by decide +kernel
theorem dX2_canTell_37 : decode cX2_canTell 37 = .ok (.if_icmp .eq 18, 3) := by decide +kernel
theorem dX2_canTell_40 : decode cX2_canTell 40 = .ok (.aload_n 0, 1) := by decide +kernel
theorem dX2_canTell_41 : decode cX2_canTell 41 = .ok (.iload_n 1, 1) := by decide +kernel
theorem dX2_canTell_42 : decode cX2_canTell 42 = .ok (.invokevirtual 85, 3) := by decide +kernel
theorem dX2_canTell_45 : decode cX2_canTell 45 = .ok (.invokestatic 69, 3) := by decide +kernel
theorem dX2_canTell_48 : decode cX2_canTell 48 = .ok (.ifCond .eq 7, 3) := by decide +kernel
theorem dX2_canTell_51 : decode cX2_canTell 51 = .ok (.iconst 1, 1) := by decide +kernel
theorem dX2_canTell_52 : decode cX2_canTell 52 = .ok (.goto 4, 3) := by decide +kernel
theorem dX2_canTell_55 : decode cX2_canTell 55 = .ok (.iconst 0, 1) := by decide +kernel
theorem dX2_canTell_56 : decode cX2_canTell 56 = .ok (.ireturn, 1) := by decide +kernel
theorem dX2_canAsk_0 : decode cX2_canAsk 0 = .ok (.iload_n 2, 1) := by decide +kernel
theorem dX2_canAsk_1 : decode cX2_canAsk 1 = .ok (.iload_n 3, 1) := by decide +kernel
theorem dX2_canAsk_2 : decode cX2_canAsk 2 = .ok (.if_icmp .eq 33, 3) := by decide +kernel
theorem dX2_canAsk_5 : decode cX2_canAsk 5 = .ok (.aload_n 0, 1) := by decide +kernel
theorem dX2_canAsk_6 : decode cX2_canAsk 6 = .ok (.iload_n 2, 1) := by decide +kernel
theorem dX2_canAsk_7 : decode cX2_canAsk 7 = .ok (.invokevirtual 79, 3) := by decide +kernel
theorem dX2_canAsk_10 : decode cX2_canAsk 10 = .ok (.ifCond .eq 25, 3) := by decide +kernel
theorem dX2_canAsk_13 : decode cX2_canAsk 13 = .ok (.aload_n 0, 1) := by decide +kernel
theorem dX2_canAsk_14 : decode cX2_canAsk 14 = .ok (.iload_n 3, 1) := by decide +kernel
theorem dX2_canAsk_15 : decode cX2_canAsk 15 = .ok (.invokevirtual 79, 3) := by decide +kernel
theorem dX2_canAsk_18 : decode cX2_canAsk 18 = .ok (.ifCond .eq 17, 3) := by decide +kernel
theorem dX2_canAsk_21 : decode cX2_canAsk 21 = .ok (.aload_n 0, 1) := by decide +kernel
theorem dX2_canAsk_22 : decode cX2_canAsk 22 = .ok (.iload_n 1, 1) := by decide +kernel
theorem dX2_canAsk_23 : decode cX2_canAsk 23 = .ok (.iload_n 2, 1) := by decide +kernel
theorem dX2_canAsk_24 : decode cX2_canAsk 24 = .ok (.invokevirtual 66, 3) := by decide +kernel
theorem dX2_canAsk_27 : decode cX2_canAsk 27 = .ok (.iconst 1, 1) := by decide +kernel
theorem dX2_canAsk_28 : decode cX2_canAsk 28 = .ok (.if_icmp .ne 7, 3) := by decide +kernel
theorem dX2_canAsk_31 : decode cX2_canAsk 31 = .ok (.iconst 1, 1) := by decide +kernel
theorem dX2_canAsk_32 : decode cX2_canAsk 32 = .ok (.goto 4, 3) := by decide +kernel
theorem dX2_canAsk_35 : decode cX2_canAsk 35 = .ok (.iconst 0, 1) := by decide +kernel
theorem dX2_canAsk_36 : decode cX2_canAsk 36 = .ok (.ireturn, 1) := by decide +kernel
theorem dX2_addDeal_0 : decode cX2_addDeal 0 = .ok (.aload_n 0, 1) := by decide +kernel
theorem dX2_addDeal_1 : decode cX2_addDeal 1 = .ok (.iload_n 1, 1) := by decide +kernel
theorem dX2_addDeal_2 : decode cX2_addDeal 2 = .ok (.iload_n 2, 1) := by decide +kernel
theorem dX2_addDeal_3 : decode cX2_addDeal 3 = .ok (.invokevirtual 88, 3) := by decide +kernel
theorem dX2_addDeal_6 : decode cX2_addDeal 6 = .ok (.ifCond .ne 5, 3) := by decide +kernel
theorem dX2_addDeal_9 : decode cX2_addDeal 9 = .ok (.iconst (-1), 1) := by decide +kernel
theorem dX2_addDeal_10 : decode cX2_addDeal 10 = .ok (.ireturn, 1) := by decide +kernel
theorem dX2_addDeal_11 : decode cX2_addDeal 11 = .ok (.aload_n 0, 1) := by decide +kernel
theorem dX2_addDeal_12 : decode cX2_addDeal 12 = .ok (.getfield 9, 3) := by decide +kernel
theorem dX2_addDeal_15 : decode cX2_addDeal 15 = .ok (.istore 4, 2) := by decide +kernel
theorem dX2_addDeal_17 : decode cX2_addDeal 17 = .ok (.aload_n 0, 1) := by decide +kernel
theorem dX2_addDeal_18 : decode cX2_addDeal 18 = .ok (.getfield 24, 3) := by decide +kernel
theorem dX2_addDeal_21 : decode cX2_addDeal 21 = .ok (.iload 4, 2) := by decide +kernel
theorem dX2_addDeal_23 : decode cX2_addDeal 23 = .ok (.iload_n 1, 1) := by decide +kernel
theorem dX2_addDeal_24 : decode cX2_addDeal 24 = .ok (.iastore, 1) := by decide +kernel
theorem dX2_addDeal_25 : decode cX2_addDeal 25 = .ok (.aload_n 0, 1) := by decide +kernel
theorem dX2_addDeal_26 : decode cX2_addDeal 26 = .ok (.getfield 28, 3) := by decide +kernel
theorem dX2_addDeal_29 : decode cX2_addDeal 29 = .ok (.iload 4, 2) := by decide +kernel
theorem dX2_addDeal_31 : decode cX2_addDeal 31 = .ok (.iload_n 3, 1) := by decide +kernel
theorem dX2_addDeal_32 : decode cX2_addDeal 32 = .ok (.iastore, 1) := by decide +kernel
theorem dX2_addDeal_33 : decode cX2_addDeal 33 = .ok (.aload_n 0, 1) := by decide +kernel
theorem dX2_addDeal_34 : decode cX2_addDeal 34 = .ok (.getfield 31, 3) := by decide +kernel
theorem dX2_addDeal_37 : decode cX2_addDeal 37 = .ok (.iload 4, 2) := by decide +kernel
theorem dX2_addDeal_39 : decode cX2_addDeal 39 = .ok (.iconst 0, 1) := by decide +kernel
theorem dX2_addDeal_40 : decode cX2_addDeal 40 = .ok (.iastore, 1) := by decide +kernel
theorem dX2_addDeal_41 : decode cX2_addDeal 41 = .ok (.iconst 0, 1) := by decide +kernel
theorem dX2_addDeal_42 : decode cX2_addDeal 42 = .ok (.istore 5, 2) := by decide +kernel
theorem dX2_addDeal_44 : decode cX2_addDeal 44 = .ok (.iload 5, 2) := by decide +kernel
theorem dX2_addDeal_46 : decode cX2_addDeal 46 = .ok (.bipush 6, 2) := by decide +kernel
theorem dX2_addDeal_48 : decode cX2_addDeal 48 = .ok (.if_icmp .ge 36, 3) := by decide +kernel
theorem dX2_addDeal_51 : decode cX2_addDeal 51 = .ok (.aload_n 0, 1) := by decide +kernel
theorem dX2_addDeal_52 : decode cX2_addDeal 52 = .ok (.getfield 34, 3) := by decide +kernel
theorem dX2_addDeal_55 : decode cX2_addDeal 55 = .ok (.iload 4, 2) := by decide +kernel
theorem dX2_addDeal_57 : decode cX2_addDeal 57 = .ok (.bipush 6, 2) := by decide +kernel
theorem dX2_addDeal_59 : decode cX2_addDeal 59 = .ok (.imul, 1) := by decide +kernel
theorem dX2_addDeal_60 : decode cX2_addDeal 60 = .ok (.iload 5, 2) := by decide +kernel
theorem dX2_addDeal_62 : decode cX2_addDeal 62 = .ok (.iadd, 1) := by decide +kernel
theorem dX2_addDeal_63 : decode cX2_addDeal 63 = .ok (.iload_n 2, 1) := by decide +kernel
theorem dX2_addDeal_64 : decode cX2_addDeal 64 = .ok (.iload 5, 2) := by decide +kernel
theorem dX2_addDeal_66 : decode cX2_addDeal 66 = .ok (.ishr, 1) := by decide +kernel
theorem dX2_addDeal_67 : decode cX2_addDeal 67 = .ok (.iconst 1, 1) := by decide +kernel
theorem dX2_addDeal_68 : decode cX2_addDeal 68 = .ok (.iand, 1) := by decide +kernel
theorem dX2_addDeal_69 : decode cX2_addDeal 69 = .ok (.ifCond .eq 7, 3) := by decide +kernel
theorem dX2_addDeal_72 : decode cX2_addDeal 72 = .ok (.iconst 0, 1) := by decide +kernel
theorem dX2_addDeal_73 : decode cX2_addDeal 73 = .ok (.goto 4, 3) := by decide +kernel
theorem dX2_addDeal_76 : decode cX2_addDeal 76 = .ok (.iconst (-1), 1) := by decide +kernel
theorem dX2_addDeal_77 : decode cX2_addDeal 77 = .ok (.iastore, 1) := by decide +kernel
theorem dX2_addDeal_78 : decode cX2_addDeal 78 = .ok (.iinc 5 1, 3) := by decide +kernel
theorem dX2_addDeal_81 : decode cX2_addDeal 81 = .ok (.goto (-37), 3) := by decide +kernel
theorem dX2_addDeal_84 : decode cX2_addDeal 84 = .ok (.aload_n 0, 1) := by decide +kernel
theorem dX2_addDeal_85 : decode cX2_addDeal 85 = .ok (.dup, 1) := by decide +kernel
theorem dX2_addDeal_86 : decode cX2_addDeal 86 = .ok (.getfield 9, 3) := by decide +kernel
theorem dX2_addDeal_89 : decode cX2_addDeal 89 = .ok (.iconst 1, 1) := by decide +kernel
theorem dX2_addDeal_90 : decode cX2_addDeal 90 = .ok (.iadd, 1) := by decide +kernel
theorem dX2_addDeal_91 : decode cX2_addDeal 91 = .ok (.putfield 9, 3) := by decide +kernel
theorem dX2_addDeal_94 : decode cX2_addDeal 94 = .ok (.iload 4, 2) := by decide +kernel
theorem dX2_addDeal_96 : decode cX2_addDeal 96 = .ok (.ireturn, 1) := by decide +kernel
theorem dX2_castVote_0 : decode cX2_castVote 0 = .ok (.aload_n 0, 1) := by decide +kernel
theorem dX2_castVote_1 : decode cX2_castVote 1 = .ok (.iload_n 1, 1) := by decide +kernel
theorem dX2_castVote_2 : decode cX2_castVote 2 = .ok (.iload_n 2, 1) := by decide +kernel
theorem dX2_castVote_3 : decode cX2_castVote 3 = .ok (.invokevirtual 92, 3) := by decide +kernel
theorem dX2_castVote_6 : decode cX2_castVote 6 = .ok (.ifCond .ne 5, 3) := by decide +kernel
theorem dX2_castVote_9 : decode cX2_castVote 9 = .ok (.iconst (-1), 1) := by decide +kernel
theorem dX2_castVote_10 : decode cX2_castVote 10 = .ok (.ireturn, 1) := by decide +kernel
theorem dX2_castVote_11 : decode cX2_castVote 11 = .ok (.iload_n 3, 1) := by decide +kernel
theorem dX2_castVote_12 : decode cX2_castVote 12 = .ok (.ifCond .eq 16, 3) := by decide +kernel
theorem dX2_castVote_15 : decode cX2_castVote 15 = .ok (.aload_n 0, 1) := by decide +kernel
theorem dX2_castVote_16 : decode cX2_castVote 16 = .ok (.iload_n 1, 1) := by decide +kernel
theorem dX2_castVote_17 : decode cX2_castVote 17 = .ok (.iload_n 2, 1) := by decide +kernel
theorem dX2_castVote_18 : decode cX2_castVote 18 = .ok (.invokevirtual 95, 3) := by decide +kernel
theorem dX2_castVote_21 : decode cX2_castVote 21 = .ok (.ifCond .ne 7, 3) := by decide +kernel
theorem dX2_castVote_24 : decode cX2_castVote 24 = .ok (.iconst 1, 1) := by decide +kernel
theorem dX2_castVote_25 : decode cX2_castVote 25 = .ok (.goto 4, 3) := by decide +kernel
theorem dX2_castVote_28 : decode cX2_castVote 28 = .ok (.iconst 3, 1) := by decide +kernel
theorem dX2_castVote_29 : decode cX2_castVote 29 = .ok (.istore 4, 2) := by decide +kernel
theorem dX2_castVote_31 : decode cX2_castVote 31 = .ok (.aload_n 0, 1) := by decide +kernel
theorem dX2_castVote_32 : decode cX2_castVote 32 = .ok (.iload_n 1, 1) := by decide +kernel
theorem dX2_castVote_33 : decode cX2_castVote 33 = .ok (.iload_n 2, 1) := by decide +kernel
theorem dX2_castVote_34 : decode cX2_castVote 34 = .ok (.iload 4, 2) := by decide +kernel
theorem dX2_castVote_36 : decode cX2_castVote 36 = .ok (.invokevirtual 98, 3) := by decide +kernel
theorem dX2_castVote_39 : decode cX2_castVote 39 = .ok (.iload 4, 2) := by decide +kernel
theorem dX2_castVote_41 : decode cX2_castVote 41 = .ok (.ireturn, 1) := by decide +kernel
theorem dX2_holdsForAnother_0 : decode cX2_holdsForAnother 0 = .ok (.iconst 0, 1) := by decide +kernel
theorem dX2_holdsForAnother_1 : decode cX2_holdsForAnother 1 = .ok (.istore_n 3, 1) := by decide +kernel
theorem dX2_holdsForAnother_2 : decode cX2_holdsForAnother 2 = .ok (.iload_n 3, 1) := by decide +kernel
theorem dX2_holdsForAnother_3 : decode cX2_holdsForAnother 3 = .ok (.aload_n 0, 1) := by decide +kernel
theorem dX2_holdsForAnother_4 : decode cX2_holdsForAnother 4 = .ok (.getfield 9, 3) := by decide +kernel
theorem dX2_holdsForAnother_7 : decode cX2_holdsForAnother 7 = .ok (.if_icmp .ge 41, 3) := by decide +kernel
theorem dX2_holdsForAnother_10 : decode cX2_holdsForAnother 10 = .ok (.iload_n 3, 1) := by decide +kernel
theorem dX2_holdsForAnother_11 : decode cX2_holdsForAnother 11 = .ok (.iload_n 1, 1) := by decide +kernel
theorem dX2_holdsForAnother_12 : decode cX2_holdsForAnother 12 = .ok (.if_icmp .eq 30, 3) := by decide +kernel
theorem dX2_holdsForAnother_15 : decode cX2_holdsForAnother 15 = .ok (.aload_n 0, 1) := by decide +kernel
theorem dX2_holdsForAnother_16 : decode cX2_holdsForAnother 16 = .ok (.getfield 28, 3) := by decide +kernel
theorem dX2_holdsForAnother_19 : decode cX2_holdsForAnother 19 = .ok (.iload_n 3, 1) := by decide +kernel
theorem dX2_holdsForAnother_20 : decode cX2_holdsForAnother 20 = .ok (.iaload, 1) := by decide +kernel
theorem dX2_holdsForAnother_21 : decode cX2_holdsForAnother 21 = .ok (.aload_n 0, 1) := by decide +kernel
theorem dX2_holdsForAnother_22 : decode cX2_holdsForAnother 22 = .ok (.getfield 28, 3) := by decide +kernel
theorem dX2_holdsForAnother_25 : decode cX2_holdsForAnother 25 = .ok (.iload_n 1, 1) := by decide +kernel
theorem dX2_holdsForAnother_26 : decode cX2_holdsForAnother 26 = .ok (.iaload, 1) := by decide +kernel
theorem dX2_holdsForAnother_27 : decode cX2_holdsForAnother 27 = .ok (.if_icmp .ne 15, 3) := by decide +kernel
theorem dX2_holdsForAnother_30 : decode cX2_holdsForAnother 30 = .ok (.aload_n 0, 1) := by decide +kernel
theorem dX2_holdsForAnother_31 : decode cX2_holdsForAnother 31 = .ok (.iload_n 3, 1) := by decide +kernel
theorem dX2_holdsForAnother_32 : decode cX2_holdsForAnother 32 = .ok (.iload_n 2, 1) := by decide +kernel
theorem dX2_holdsForAnother_33 : decode cX2_holdsForAnother 33 = .ok (.invokevirtual 66, 3) := by decide +kernel
theorem dX2_holdsForAnother_36 : decode cX2_holdsForAnother 36 = .ok (.iconst 1, 1) := by decide +kernel
theorem dX2_holdsForAnother_37 : decode cX2_holdsForAnother 37 = .ok (.if_icmp .ne 5, 3) := by decide +kernel
theorem dX2_holdsForAnother_40 : decode cX2_holdsForAnother 40 = .ok (.iconst 1, 1) := by decide +kernel
theorem dX2_holdsForAnother_41 : decode cX2_holdsForAnother 41 = .ok (.ireturn, 1) := by decide +kernel
theorem dX2_holdsForAnother_42 : decode cX2_holdsForAnother 42 = .ok (.iinc 3 1, 3) := by decide +kernel
theorem dX2_holdsForAnother_45 : decode cX2_holdsForAnother 45 = .ok (.goto (-43), 3) := by decide +kernel
theorem dX2_holdsForAnother_48 : decode cX2_holdsForAnother 48 = .ok (.iconst 0, 1) := by decide +kernel
theorem dX2_holdsForAnother_49 : decode cX2_holdsForAnother 49 = .ok (.ireturn, 1) := by decide +kernel
theorem dX2_makeDecision_0 : decode cX2_makeDecision 0 = .ok (.aload_n 0, 1) := by decide +kernel
theorem dX2_makeDecision_1 : decode cX2_makeDecision 1 = .ok (.iload_n 1, 1) := by decide +kernel
theorem dX2_makeDecision_2 : decode cX2_makeDecision 2 = .ok (.invokevirtual 102, 3) := by decide +kernel
theorem dX2_makeDecision_5 : decode cX2_makeDecision 5 = .ok (.ifCond .ne 5, 3) := by decide +kernel
theorem dX2_makeDecision_8 : decode cX2_makeDecision 8 = .ok (.iconst (-1), 1) := by decide +kernel
theorem dX2_makeDecision_9 : decode cX2_makeDecision 9 = .ok (.ireturn, 1) := by decide +kernel
theorem dX2_makeDecision_10 : decode cX2_makeDecision 10 = .ok (.aload_n 0, 1) := by decide +kernel
theorem dX2_makeDecision_11 : decode cX2_makeDecision 11 = .ok (.iload_n 1, 1) := by decide +kernel
theorem dX2_makeDecision_12 : decode cX2_makeDecision 12 = .ok (.invokevirtual 105, 3) := by decide +kernel
theorem dX2_makeDecision_15 : decode cX2_makeDecision 15 = .ok (.ifCond .eq 7, 3) := by decide +kernel
theorem dX2_makeDecision_18 : decode cX2_makeDecision 18 = .ok (.iconst 2, 1) := by decide +kernel
theorem dX2_makeDecision_19 : decode cX2_makeDecision 19 = .ok (.goto 4, 3) := by decide +kernel
theorem dX2_makeDecision_22 : decode cX2_makeDecision 22 = .ok (.iconst 3, 1) := by decide +kernel
theorem dX2_makeDecision_23 : decode cX2_makeDecision 23 = .ok (.istore_n 2, 1) := by decide +kernel
theorem dX2_makeDecision_24 : decode cX2_makeDecision 24 = .ok (.aload_n 0, 1) := by decide +kernel
theorem dX2_makeDecision_25 : decode cX2_makeDecision 25 = .ok (.iload_n 1, 1) := by decide +kernel
theorem dX2_makeDecision_26 : decode cX2_makeDecision 26 = .ok (.iload_n 2, 1) := by decide +kernel
theorem dX2_makeDecision_27 : decode cX2_makeDecision 27 = .ok (.invokevirtual 108, 3) := by decide +kernel
theorem dX2_makeDecision_30 : decode cX2_makeDecision 30 = .ok (.iload_n 2, 1) := by decide +kernel
theorem dX2_makeDecision_31 : decode cX2_makeDecision 31 = .ok (.ireturn, 1) := by decide +kernel
theorem dX2_areAllInDoubt_0 : decode cX2_areAllInDoubt 0 = .ok (.iconst 0, 1) := by decide +kernel
theorem dX2_areAllInDoubt_1 : decode cX2_areAllInDoubt 1 = .ok (.istore_n 2, 1) := by decide +kernel
theorem dX2_areAllInDoubt_2 : decode cX2_areAllInDoubt 2 = .ok (.iload_n 2, 1) := by decide +kernel
theorem dX2_areAllInDoubt_3 : decode cX2_areAllInDoubt 3 = .ok (.bipush 6, 2) := by decide +kernel
theorem dX2_areAllInDoubt_5 : decode cX2_areAllInDoubt 5 = .ok (.if_icmp .ge 28, 3) := by decide +kernel
theorem dX2_areAllInDoubt_8 : decode cX2_areAllInDoubt 8 = .ok (.aload_n 0, 1) := by decide +kernel
theorem dX2_areAllInDoubt_9 : decode cX2_areAllInDoubt 9 = .ok (.iload_n 1, 1) := by decide +kernel
theorem dX2_areAllInDoubt_10 : decode cX2_areAllInDoubt 10 = .ok (.iload_n 2, 1) := by decide +kernel
theorem dX2_areAllInDoubt_11 : decode cX2_areAllInDoubt 11 = .ok (.invokevirtual 66, 3) := by decide +kernel
theorem dX2_areAllInDoubt_14 : decode cX2_areAllInDoubt 14 = .ok (.istore_n 3, 1) := by decide +kernel
theorem dX2_areAllInDoubt_15 : decode cX2_areAllInDoubt 15 = .ok (.iload_n 3, 1) := by decide +kernel
theorem dX2_areAllInDoubt_16 : decode cX2_areAllInDoubt 16 = .ok (.iconst (-1), 1) := by decide +kernel
theorem dX2_areAllInDoubt_17 : decode cX2_areAllInDoubt 17 = .ok (.if_icmp .eq 10, 3) := by decide +kernel
theorem dX2_areAllInDoubt_20 : decode cX2_areAllInDoubt 20 = .ok (.iload_n 3, 1) := by decide +kernel
theorem dX2_areAllInDoubt_21 : decode cX2_areAllInDoubt 21 = .ok (.iconst 1, 1) := by decide +kernel
theorem dX2_areAllInDoubt_22 : decode cX2_areAllInDoubt 22 = .ok (.if_icmp .eq 5, 3) := by decide +kernel
theorem dX2_areAllInDoubt_25 : decode cX2_areAllInDoubt 25 = .ok (.iconst 0, 1) := by decide +kernel
theorem dX2_areAllInDoubt_26 : decode cX2_areAllInDoubt 26 = .ok (.ireturn, 1) := by decide +kernel
theorem dX2_areAllInDoubt_27 : decode cX2_areAllInDoubt 27 = .ok (.iinc 2 1, 3) := by decide +kernel
theorem dX2_areAllInDoubt_30 : decode cX2_areAllInDoubt 30 = .ok (.goto (-28), 3) := by decide +kernel
theorem dX2_areAllInDoubt_33 : decode cX2_areAllInDoubt 33 = .ok (.iconst 1, 1) := by decide +kernel
theorem dX2_areAllInDoubt_34 : decode cX2_areAllInDoubt 34 = .ok (.ireturn, 1) := by decide +kernel
theorem dX2_tellMember_0 : decode cX2_tellMember 0 = .ok (.aload_n 0, 1) := by decide +kernel
theorem dX2_tellMember_1 : decode cX2_tellMember 1 = .ok (.iload_n 1, 1) := by decide +kernel
theorem dX2_tellMember_2 : decode cX2_tellMember 2 = .ok (.iload_n 2, 1) := by decide +kernel
theorem dX2_tellMember_3 : decode cX2_tellMember 3 = .ok (.invokevirtual 112, 3) := by decide +kernel
theorem dX2_tellMember_6 : decode cX2_tellMember 6 = .ok (.ifCond .ne 5, 3) := by decide +kernel
theorem dX2_tellMember_9 : decode cX2_tellMember 9 = .ok (.iconst (-1), 1) := by decide +kernel
theorem dX2_tellMember_10 : decode cX2_tellMember 10 = .ok (.ireturn, 1) := by decide +kernel
theorem dX2_tellMember_11 : decode cX2_tellMember 11 = .ok (.aload_n 0, 1) := by decide +kernel
theorem dX2_tellMember_12 : decode cX2_tellMember 12 = .ok (.iload_n 1, 1) := by decide +kernel
theorem dX2_tellMember_13 : decode cX2_tellMember 13 = .ok (.invokevirtual 85, 3) := by decide +kernel
theorem dX2_tellMember_16 : decode cX2_tellMember 16 = .ok (.istore_n 3, 1) := by decide +kernel
theorem dX2_tellMember_17 : decode cX2_tellMember 17 = .ok (.aload_n 0, 1) := by decide +kernel
theorem dX2_tellMember_18 : decode cX2_tellMember 18 = .ok (.iload_n 1, 1) := by decide +kernel
theorem dX2_tellMember_19 : decode cX2_tellMember 19 = .ok (.iload_n 2, 1) := by decide +kernel
theorem dX2_tellMember_20 : decode cX2_tellMember 20 = .ok (.invokevirtual 66, 3) := by decide +kernel
theorem dX2_tellMember_23 : decode cX2_tellMember 23 = .ok (.istore 4, 2) := by decide +kernel
theorem dX2_tellMember_25 : decode cX2_tellMember 25 = .ok (.iload 4, 2) := by decide +kernel
theorem dX2_tellMember_27 : decode cX2_tellMember 27 = .ok (.iconst 1, 1) := by decide +kernel
theorem dX2_tellMember_28 : decode cX2_tellMember 28 = .ok (.if_icmp .eq 13, 3) := by decide +kernel
theorem dX2_tellMember_31 : decode cX2_tellMember 31 = .ok (.iload 4, 2) := by decide +kernel
theorem dX2_tellMember_33 : decode cX2_tellMember 33 = .ok (.ifCond .ne 15, 3) := by decide +kernel
theorem dX2_tellMember_36 : decode cX2_tellMember 36 = .ok (.iload_n 3, 1) := by decide +kernel
theorem dX2_tellMember_37 : decode cX2_tellMember 37 = .ok (.iconst 3, 1) := by decide +kernel
theorem dX2_tellMember_38 : decode cX2_tellMember 38 = .ok (.if_icmp .ne 10, 3) := by decide +kernel
theorem dX2_tellMember_41 : decode cX2_tellMember 41 = .ok (.aload_n 0, 1) := by decide +kernel
theorem dX2_tellMember_42 : decode cX2_tellMember 42 = .ok (.iload_n 1, 1) := by decide +kernel
theorem dX2_tellMember_43 : decode cX2_tellMember 43 = .ok (.iload_n 2, 1) := by decide +kernel
theorem dX2_tellMember_44 : decode cX2_tellMember 44 = .ok (.iload_n 3, 1) := by decide +kernel
theorem dX2_tellMember_45 : decode cX2_tellMember 45 = .ok (.invokevirtual 98, 3) := by decide +kernel
theorem dX2_tellMember_48 : decode cX2_tellMember 48 = .ok (.aload_n 0, 1) := by decide +kernel
theorem dX2_tellMember_49 : decode cX2_tellMember 49 = .ok (.iload_n 1, 1) := by decide +kernel
theorem dX2_tellMember_50 : decode cX2_tellMember 50 = .ok (.iload_n 2, 1) := by decide +kernel
theorem dX2_tellMember_51 : decode cX2_tellMember 51 = .ok (.invokevirtual 66, 3) := by decide +kernel
theorem dX2_tellMember_54 : decode cX2_tellMember 54 = .ok (.ireturn, 1) := by decide +kernel
theorem dX2_putQuestion_0 : decode cX2_putQuestion 0 = .ok (.aload_n 0, 1) := by decide +kernel
theorem dX2_putQuestion_1 : decode cX2_putQuestion 1 = .ok (.iload_n 1, 1) := by decide +kernel
theorem dX2_putQuestion_2 : decode cX2_putQuestion 2 = .ok (.iload_n 2, 1) := by decide +kernel
theorem dX2_putQuestion_3 : decode cX2_putQuestion 3 = .ok (.iload_n 3, 1) := by decide +kernel
theorem dX2_putQuestion_4 : decode cX2_putQuestion 4 = .ok (.invokevirtual 115, 3) := by decide +kernel
theorem dX2_putQuestion_7 : decode cX2_putQuestion 7 = .ok (.ifCond .ne 5, 3) := by decide +kernel
theorem dX2_putQuestion_10 : decode cX2_putQuestion 10 = .ok (.iconst (-1), 1) := by decide +kernel
theorem dX2_putQuestion_11 : decode cX2_putQuestion 11 = .ok (.ireturn, 1) := by decide +kernel
theorem dX2_putQuestion_12 : decode cX2_putQuestion 12 = .ok (.aload_n 0, 1) := by decide +kernel
theorem dX2_putQuestion_13 : decode cX2_putQuestion 13 = .ok (.dup, 1) := by decide +kernel
theorem dX2_putQuestion_14 : decode cX2_putQuestion 14 = .ok (.getfield 18, 3) := by decide +kernel
theorem dX2_putQuestion_17 : decode cX2_putQuestion 17 = .ok (.iconst 1, 1) := by decide +kernel
theorem dX2_putQuestion_18 : decode cX2_putQuestion 18 = .ok (.iadd, 1) := by decide +kernel
theorem dX2_putQuestion_19 : decode cX2_putQuestion 19 = .ok (.putfield 18, 3) := by decide +kernel
theorem dX2_putQuestion_22 : decode cX2_putQuestion 22 = .ok (.aload_n 0, 1) := by decide +kernel
theorem dX2_putQuestion_23 : decode cX2_putQuestion 23 = .ok (.iload_n 1, 1) := by decide +kernel
theorem dX2_putQuestion_24 : decode cX2_putQuestion 24 = .ok (.iload_n 3, 1) := by decide +kernel
theorem dX2_putQuestion_25 : decode cX2_putQuestion 25 = .ok (.invokevirtual 66, 3) := by decide +kernel
theorem dX2_putQuestion_28 : decode cX2_putQuestion 28 = .ok (.istore 4, 2) := by decide +kernel
theorem dX2_putQuestion_30 : decode cX2_putQuestion 30 = .ok (.iload_n 3, 1) := by decide +kernel
theorem dX2_putQuestion_31 : decode cX2_putQuestion 31 = .ok (.aload_n 0, 1) := by decide +kernel
theorem dX2_putQuestion_32 : decode cX2_putQuestion 32 = .ok (.iload_n 1, 1) := by decide +kernel
theorem dX2_putQuestion_33 : decode cX2_putQuestion 33 = .ok (.invokevirtual 82, 3) := by decide +kernel
theorem dX2_putQuestion_36 : decode cX2_putQuestion 36 = .ok (.if_icmp .ne 27, 3) := by decide +kernel
theorem dX2_putQuestion_39 : decode cX2_putQuestion 39 = .ok (.aload_n 0, 1) := by decide +kernel
theorem dX2_putQuestion_40 : decode cX2_putQuestion 40 = .ok (.iload_n 1, 1) := by decide +kernel
theorem dX2_putQuestion_41 : decode cX2_putQuestion 41 = .ok (.invokevirtual 85, 3) := by decide +kernel
theorem dX2_putQuestion_44 : decode cX2_putQuestion 44 = .ok (.ifCond .ne 9, 3) := by decide +kernel
theorem dX2_putQuestion_47 : decode cX2_putQuestion 47 = .ok (.aload_n 0, 1) := by decide +kernel
theorem dX2_putQuestion_48 : decode cX2_putQuestion 48 = .ok (.iload_n 1, 1) := by decide +kernel
theorem dX2_putQuestion_49 : decode cX2_putQuestion 49 = .ok (.iconst 3, 1) := by decide +kernel
theorem dX2_putQuestion_50 : decode cX2_putQuestion 50 = .ok (.invokevirtual 108, 3) := by decide +kernel
theorem dX2_putQuestion_53 : decode cX2_putQuestion 53 = .ok (.aload_n 0, 1) := by decide +kernel
theorem dX2_putQuestion_54 : decode cX2_putQuestion 54 = .ok (.iload_n 1, 1) := by decide +kernel
theorem dX2_putQuestion_55 : decode cX2_putQuestion 55 = .ok (.invokevirtual 85, 3) := by decide +kernel
theorem dX2_putQuestion_58 : decode cX2_putQuestion 58 = .ok (.istore 4, 2) := by decide +kernel
theorem dX2_putQuestion_60 : decode cX2_putQuestion 60 = .ok (.goto 18, 3) := by decide +kernel
theorem dX2_putQuestion_63 : decode cX2_putQuestion 63 = .ok (.iload 4, 2) := by decide +kernel
theorem dX2_putQuestion_65 : decode cX2_putQuestion 65 = .ok (.ifCond .ne 13, 3) := by decide +kernel
theorem dX2_putQuestion_68 : decode cX2_putQuestion 68 = .ok (.aload_n 0, 1) := by decide +kernel
theorem dX2_putQuestion_69 : decode cX2_putQuestion 69 = .ok (.iload_n 1, 1) := by decide +kernel
theorem dX2_putQuestion_70 : decode cX2_putQuestion 70 = .ok (.iload_n 3, 1) := by decide +kernel
theorem dX2_putQuestion_71 : decode cX2_putQuestion 71 = .ok (.iconst 3, 1) := by decide +kernel
theorem dX2_putQuestion_72 : decode cX2_putQuestion 72 = .ok (.invokevirtual 98, 3) := by decide +kernel
theorem dX2_putQuestion_75 : decode cX2_putQuestion 75 = .ok (.iconst 3, 1) := by decide +kernel
theorem dX2_putQuestion_76 : decode cX2_putQuestion 76 = .ok (.istore 4, 2) := by decide +kernel
theorem dX2_putQuestion_78 : decode cX2_putQuestion 78 = .ok (.iload 4, 2) := by decide +kernel
theorem dX2_putQuestion_80 : decode cX2_putQuestion 80 = .ok (.invokestatic 69, 3) := by decide +kernel
theorem dX2_putQuestion_83 : decode cX2_putQuestion 83 = .ok (.ifCond .eq 11, 3) := by decide +kernel
theorem dX2_putQuestion_86 : decode cX2_putQuestion 86 = .ok (.aload_n 0, 1) := by decide +kernel
theorem dX2_putQuestion_87 : decode cX2_putQuestion 87 = .ok (.iload_n 1, 1) := by decide +kernel
theorem dX2_putQuestion_88 : decode cX2_putQuestion 88 = .ok (.iload_n 2, 1) := by decide +kernel
theorem dX2_putQuestion_89 : decode cX2_putQuestion 89 = .ok (.iload 4, 2) := by decide +kernel
theorem dX2_putQuestion_91 : decode cX2_putQuestion 91 = .ok (.invokevirtual 98, 3) := by decide +kernel
theorem dX2_putQuestion_94 : decode cX2_putQuestion 94 = .ok (.aload_n 0, 1) := by decide +kernel
theorem dX2_putQuestion_95 : decode cX2_putQuestion 95 = .ok (.iload_n 1, 1) := by decide +kernel
theorem dX2_putQuestion_96 : decode cX2_putQuestion 96 = .ok (.iload_n 2, 1) := by decide +kernel
theorem dX2_putQuestion_97 : decode cX2_putQuestion 97 = .ok (.invokevirtual 66, 3) := by decide +kernel
theorem dX2_putQuestion_100 : decode cX2_putQuestion 100 = .ok (.ireturn, 1) := by decide +kernel
theorem dX2_enter_0 : decode cX2_enter 0 = .ok (.aload_n 0, 1) := by decide +kernel
theorem dX2_enter_1 : decode cX2_enter 1 = .ok (.iload_n 1, 1) := by decide +kernel
theorem dX2_enter_2 : decode cX2_enter 2 = .ok (.iload_n 2, 1) := by decide +kernel
theorem dX2_enter_3 : decode cX2_enter 3 = .ok (.invokevirtual 66, 3) := by decide +kernel
theorem dX2_enter_6 : decode cX2_enter 6 = .ok (.iconst (-1), 1) := by decide +kernel
theorem dX2_enter_7 : decode cX2_enter 7 = .ok (.if_icmp .ne 4, 3) := by decide +kernel
theorem dX2_enter_10 : decode cX2_enter 10 = .ok (.return_, 1) := by decide +kernel
theorem dX2_enter_11 : decode cX2_enter 11 = .ok (.aload_n 0, 1) := by decide +kernel
theorem dX2_enter_12 : decode cX2_enter 12 = .ok (.getfield 34, 3) := by decide +kernel
theorem dX2_enter_15 : decode cX2_enter 15 = .ok (.iload_n 1, 1) := by decide +kernel
theorem dX2_enter_16 : decode cX2_enter 16 = .ok (.bipush 6, 2) := by decide +kernel
theorem dX2_enter_18 : decode cX2_enter 18 = .ok (.imul, 1) := by decide +kernel
theorem dX2_enter_19 : decode cX2_enter 19 = .ok (.iload_n 2, 1) := by decide +kernel
theorem dX2_enter_20 : decode cX2_enter 20 = .ok (.iadd, 1) := by decide +kernel
theorem dX2_enter_21 : decode cX2_enter 21 = .ok (.iload_n 3, 1) := by decide +kernel
theorem dX2_enter_22 : decode cX2_enter 22 = .ok (.iastore, 1) := by decide +kernel
theorem dX2_enter_23 : decode cX2_enter 23 = .ok (.iload_n 3, 1) := by decide +kernel
theorem dX2_enter_24 : decode cX2_enter 24 = .ok (.iconst 1, 1) := by decide +kernel
theorem dX2_enter_25 : decode cX2_enter 25 = .ok (.if_icmp .ne 18, 3) := by decide +kernel
theorem dX2_enter_28 : decode cX2_enter 28 = .ok (.aload_n 0, 1) := by decide +kernel
theorem dX2_enter_29 : decode cX2_enter 29 = .ok (.getfield 37, 3) := by decide +kernel
theorem dX2_enter_32 : decode cX2_enter 32 = .ok (.iload_n 1, 1) := by decide +kernel
theorem dX2_enter_33 : decode cX2_enter 33 = .ok (.bipush 6, 2) := by decide +kernel
theorem dX2_enter_35 : decode cX2_enter 35 = .ok (.imul, 1) := by decide +kernel
theorem dX2_enter_36 : decode cX2_enter 36 = .ok (.iload_n 2, 1) := by decide +kernel
theorem dX2_enter_37 : decode cX2_enter 37 = .ok (.iadd, 1) := by decide +kernel
theorem dX2_enter_38 : decode cX2_enter 38 = .ok (.aload_n 0, 1) := by decide +kernel
theorem dX2_enter_39 : decode cX2_enter 39 = .ok (.getfield 21, 3) := by decide +kernel
theorem dX2_enter_42 : decode cX2_enter 42 = .ok (.iastore, 1) := by decide +kernel
theorem dX2_enter_43 : decode cX2_enter 43 = .ok (.aload_n 0, 1) := by decide +kernel
theorem dX2_enter_44 : decode cX2_enter 44 = .ok (.iload_n 2, 1) := by decide +kernel
theorem dX2_enter_45 : decode cX2_enter 45 = .ok (.bipush 10, 2) := by decide +kernel
theorem dX2_enter_47 : decode cX2_enter 47 = .ok (.iload_n 1, 1) := by decide +kernel
theorem dX2_enter_48 : decode cX2_enter 48 = .ok (.imul, 1) := by decide +kernel
theorem dX2_enter_49 : decode cX2_enter 49 = .ok (.iload_n 3, 1) := by decide +kernel
theorem dX2_enter_50 : decode cX2_enter 50 = .ok (.iadd, 1) := by decide +kernel
theorem dX2_enter_51 : decode cX2_enter 51 = .ok (.invokevirtual 119, 3) := by decide +kernel
theorem dX2_enter_54 : decode cX2_enter 54 = .ok (.return_, 1) := by decide +kernel
theorem dX2_settle_0 : decode cX2_settle 0 = .ok (.aload_n 0, 1) := by decide +kernel
theorem dX2_settle_1 : decode cX2_settle 1 = .ok (.iload_n 1, 1) := by decide +kernel
theorem dX2_settle_2 : decode cX2_settle 2 = .ok (.invokevirtual 62, 3) := by decide +kernel
theorem dX2_settle_5 : decode cX2_settle 5 = .ok (.ifCond .ne 4, 3) := by decide +kernel
theorem dX2_settle_8 : decode cX2_settle 8 = .ok (.return_, 1) := by decide +kernel
theorem dX2_settle_9 : decode cX2_settle 9 = .ok (.aload_n 0, 1) := by decide +kernel
theorem dX2_settle_10 : decode cX2_settle 10 = .ok (.getfield 31, 3) := by decide +kernel
theorem dX2_settle_13 : decode cX2_settle 13 = .ok (.iload_n 1, 1) := by decide +kernel
theorem dX2_settle_14 : decode cX2_settle 14 = .ok (.iload_n 2, 1) := by decide +kernel
theorem dX2_settle_15 : decode cX2_settle 15 = .ok (.iastore, 1) := by decide +kernel
theorem dX2_settle_16 : decode cX2_settle 16 = .ok (.aload_n 0, 1) := by decide +kernel
theorem dX2_settle_17 : decode cX2_settle 17 = .ok (.aload_n 0, 1) := by decide +kernel
theorem dX2_settle_18 : decode cX2_settle 18 = .ok (.getfield 24, 3) := by decide +kernel
theorem dX2_settle_21 : decode cX2_settle 21 = .ok (.iload_n 1, 1) := by decide +kernel
theorem dX2_settle_22 : decode cX2_settle 22 = .ok (.iaload, 1) := by decide +kernel
theorem dX2_settle_23 : decode cX2_settle 23 = .ok (.bipush 10, 2) := by decide +kernel
theorem dX2_settle_25 : decode cX2_settle 25 = .ok (.iload_n 1, 1) := by decide +kernel
theorem dX2_settle_26 : decode cX2_settle 26 = .ok (.imul, 1) := by decide +kernel
theorem dX2_settle_27 : decode cX2_settle 27 = .ok (.iload_n 2, 1) := by decide +kernel
theorem dX2_settle_28 : decode cX2_settle 28 = .ok (.iadd, 1) := by decide +kernel
theorem dX2_settle_29 : decode cX2_settle 29 = .ok (.iconst 3, 1) := by decide +kernel
theorem dX2_settle_30 : decode cX2_settle 30 = .ok (.iadd, 1) := by decide +kernel
theorem dX2_settle_31 : decode cX2_settle 31 = .ok (.invokevirtual 119, 3) := by decide +kernel
theorem dX2_settle_34 : decode cX2_settle 34 = .ok (.return_, 1) := by decide +kernel
theorem dX2_write_0 : decode cX2_write 0 = .ok (.iload_n 1, 1) := by decide +kernel
theorem dX2_write_1 : decode cX2_write 1 = .ok (.ifCond .lt 47, 3) := by decide +kernel
theorem dX2_write_4 : decode cX2_write 4 = .ok (.iload_n 1, 1) := by decide +kernel
theorem dX2_write_5 : decode cX2_write 5 = .ok (.bipush 6, 2) := by decide +kernel
theorem dX2_write_7 : decode cX2_write 7 = .ok (.if_icmp .ge 41, 3) := by decide +kernel
theorem dX2_write_10 : decode cX2_write 10 = .ok (.aload_n 0, 1) := by decide +kernel
theorem dX2_write_11 : decode cX2_write 11 = .ok (.getfield 40, 3) := by decide +kernel
theorem dX2_write_14 : decode cX2_write 14 = .ok (.iload_n 1, 1) := by decide +kernel
theorem dX2_write_15 : decode cX2_write 15 = .ok (.iaload, 1) := by decide +kernel
theorem dX2_write_16 : decode cX2_write 16 = .ok (.bipush 24, 2) := by decide +kernel
theorem dX2_write_18 : decode cX2_write 18 = .ok (.if_icmp .ge 30, 3) := by decide +kernel
theorem dX2_write_21 : decode cX2_write 21 = .ok (.aload_n 0, 1) := by decide +kernel
theorem dX2_write_22 : decode cX2_write 22 = .ok (.getfield 43, 3) := by decide +kernel
theorem dX2_write_25 : decode cX2_write 25 = .ok (.iload_n 1, 1) := by decide +kernel
theorem dX2_write_26 : decode cX2_write 26 = .ok (.bipush 24, 2) := by decide +kernel
theorem dX2_write_28 : decode cX2_write 28 = .ok (.imul, 1) := by decide +kernel
theorem dX2_write_29 : decode cX2_write 29 = .ok (.aload_n 0, 1) := by decide +kernel
theorem dX2_write_30 : decode cX2_write 30 = .ok (.getfield 40, 3) := by decide +kernel
theorem dX2_write_33 : decode cX2_write 33 = .ok (.iload_n 1, 1) := by decide +kernel
theorem dX2_write_34 : decode cX2_write 34 = .ok (.iaload, 1) := by decide +kernel
theorem dX2_write_35 : decode cX2_write 35 = .ok (.iadd, 1) := by decide +kernel
theorem dX2_write_36 : decode cX2_write 36 = .ok (.iload_n 2, 1) := by decide +kernel
theorem dX2_write_37 : decode cX2_write 37 = .ok (.iastore, 1) := by decide +kernel
theorem dX2_write_38 : decode cX2_write 38 = .ok (.aload_n 0, 1) := by decide +kernel
theorem dX2_write_39 : decode cX2_write 39 = .ok (.getfield 40, 3) := by decide +kernel
theorem dX2_write_42 : decode cX2_write 42 = .ok (.iload_n 1, 1) := by decide +kernel
theorem dX2_write_43 : decode cX2_write 43 = .ok (.dup2, 1) := by decide +kernel
theorem dX2_write_44 : decode cX2_write 44 = .ok (.iaload, 1) := by decide +kernel
theorem dX2_write_45 : decode cX2_write 45 = .ok (.iconst 1, 1) := by decide +kernel
theorem dX2_write_46 : decode cX2_write 46 = .ok (.iadd, 1) := by decide +kernel
theorem dX2_write_47 : decode cX2_write 47 = .ok (.iastore, 1) := by decide +kernel
theorem dX2_write_48 : decode cX2_write 48 = .ok (.return_, 1) := by decide +kernel
theorem dX2_silence_0 : decode cX2_silence 0 = .ok (.aload_n 0, 1) := by decide +kernel
theorem dX2_silence_1 : decode cX2_silence 1 = .ok (.iload_n 1, 1) := by decide +kernel
theorem dX2_silence_2 : decode cX2_silence 2 = .ok (.invokevirtual 79, 3) := by decide +kernel
theorem dX2_silence_5 : decode cX2_silence 5 = .ok (.ifCond .ne 5, 3) := by decide +kernel
theorem dX2_silence_8 : decode cX2_silence 8 = .ok (.iconst (-1), 1) := by decide +kernel
theorem dX2_silence_9 : decode cX2_silence 9 = .ok (.ireturn, 1) := by decide +kernel
theorem dX2_silence_10 : decode cX2_silence 10 = .ok (.aload_n 0, 1) := by decide +kernel
theorem dX2_silence_11 : decode cX2_silence 11 = .ok (.dup, 1) := by decide +kernel
theorem dX2_silence_12 : decode cX2_silence 12 = .ok (.getfield 15, 3) := by decide +kernel
theorem dX2_silence_15 : decode cX2_silence 15 = .ok (.iconst 1, 1) := by decide +kernel
theorem dX2_silence_16 : decode cX2_silence 16 = .ok (.iload_n 1, 1) := by decide +kernel
theorem dX2_silence_17 : decode cX2_silence 17 = .ok (.ishl, 1) := by decide +kernel
theorem dX2_silence_18 : decode cX2_silence 18 = .ok (.iconst (-1), 1) := by decide +kernel
theorem dX2_silence_19 : decode cX2_silence 19 = .ok (.ixor, 1) := by decide +kernel
theorem dX2_silence_20 : decode cX2_silence 20 = .ok (.iand, 1) := by decide +kernel
theorem dX2_silence_21 : decode cX2_silence 21 = .ok (.putfield 15, 3) := by decide +kernel
theorem dX2_silence_24 : decode cX2_silence 24 = .ok (.iconst 0, 1) := by decide +kernel
theorem dX2_silence_25 : decode cX2_silence 25 = .ok (.istore_n 2, 1) := by decide +kernel
theorem dX2_silence_26 : decode cX2_silence 26 = .ok (.iconst 0, 1) := by decide +kernel
theorem dX2_silence_27 : decode cX2_silence 27 = .ok (.istore_n 3, 1) := by decide +kernel
theorem dX2_silence_28 : decode cX2_silence 28 = .ok (.iload_n 3, 1) := by decide +kernel
theorem dX2_silence_29 : decode cX2_silence 29 = .ok (.aload_n 0, 1) := by decide +kernel
theorem dX2_silence_30 : decode cX2_silence 30 = .ok (.getfield 9, 3) := by decide +kernel
theorem dX2_silence_33 : decode cX2_silence 33 = .ok (.if_icmp .ge 22, 3) := by decide +kernel
theorem dX2_silence_36 : decode cX2_silence 36 = .ok (.aload_n 0, 1) := by decide +kernel
theorem dX2_silence_37 : decode cX2_silence 37 = .ok (.iload_n 3, 1) := by decide +kernel
theorem dX2_silence_38 : decode cX2_silence 38 = .ok (.iload_n 1, 1) := by decide +kernel
theorem dX2_silence_39 : decode cX2_silence 39 = .ok (.invokevirtual 66, 3) := by decide +kernel
theorem dX2_silence_42 : decode cX2_silence 42 = .ok (.iconst 1, 1) := by decide +kernel
theorem dX2_silence_43 : decode cX2_silence 43 = .ok (.if_icmp .ne 6, 3) := by decide +kernel
theorem dX2_silence_46 : decode cX2_silence 46 = .ok (.iinc 2 1, 3) := by decide +kernel
theorem dX2_silence_49 : decode cX2_silence 49 = .ok (.iinc 3 1, 3) := by decide +kernel
theorem dX2_silence_52 : decode cX2_silence 52 = .ok (.goto (-24), 3) := by decide +kernel
theorem dX2_silence_55 : decode cX2_silence 55 = .ok (.iload_n 2, 1) := by decide +kernel
theorem dX2_silence_56 : decode cX2_silence 56 = .ok (.ireturn, 1) := by decide +kernel
theorem dX2_wake_0 : decode cX2_wake 0 = .ok (.iload_n 1, 1) := by decide +kernel
theorem dX2_wake_1 : decode cX2_wake 1 = .ok (.invokestatic 72, 3) := by decide +kernel
theorem dX2_wake_4 : decode cX2_wake 4 = .ok (.ifCond .eq 11, 3) := by decide +kernel
theorem dX2_wake_7 : decode cX2_wake 7 = .ok (.aload_n 0, 1) := by decide +kernel
theorem dX2_wake_8 : decode cX2_wake 8 = .ok (.iload_n 1, 1) := by decide +kernel
theorem dX2_wake_9 : decode cX2_wake 9 = .ok (.invokevirtual 79, 3) := by decide +kernel
theorem dX2_wake_12 : decode cX2_wake 12 = .ok (.ifCond .eq 5, 3) := by decide +kernel
theorem dX2_wake_15 : decode cX2_wake 15 = .ok (.iconst (-1), 1) := by decide +kernel
theorem dX2_wake_16 : decode cX2_wake 16 = .ok (.ireturn, 1) := by decide +kernel
theorem dX2_wake_17 : decode cX2_wake 17 = .ok (.aload_n 0, 1) := by decide +kernel
theorem dX2_wake_18 : decode cX2_wake 18 = .ok (.iload_n 1, 1) := by decide +kernel
theorem dX2_wake_19 : decode cX2_wake 19 = .ok (.invokevirtual 75, 3) := by decide +kernel
theorem dX2_wake_22 : decode cX2_wake 22 = .ok (.istore_n 2, 1) := by decide +kernel
theorem dX2_wake_23 : decode cX2_wake 23 = .ok (.aload_n 0, 1) := by decide +kernel
theorem dX2_wake_24 : decode cX2_wake 24 = .ok (.dup, 1) := by decide +kernel
theorem dX2_wake_25 : decode cX2_wake 25 = .ok (.getfield 15, 3) := by decide +kernel
theorem dX2_wake_28 : decode cX2_wake 28 = .ok (.iconst 1, 1) := by decide +kernel
theorem dX2_wake_29 : decode cX2_wake 29 = .ok (.iload_n 1, 1) := by decide +kernel
theorem dX2_wake_30 : decode cX2_wake 30 = .ok (.ishl, 1) := by decide +kernel
theorem dX2_wake_31 : decode cX2_wake 31 = .ok (.ior, 1) := by decide +kernel
theorem dX2_wake_32 : decode cX2_wake 32 = .ok (.putfield 15, 3) := by decide +kernel
theorem dX2_wake_35 : decode cX2_wake 35 = .ok (.iconst 0, 1) := by decide +kernel
theorem dX2_wake_36 : decode cX2_wake 36 = .ok (.istore_n 3, 1) := by decide +kernel
theorem dX2_wake_37 : decode cX2_wake 37 = .ok (.iload_n 3, 1) := by decide +kernel
theorem dX2_wake_38 : decode cX2_wake 38 = .ok (.aload_n 0, 1) := by decide +kernel
theorem dX2_wake_39 : decode cX2_wake 39 = .ok (.getfield 9, 3) := by decide +kernel
theorem dX2_wake_42 : decode cX2_wake 42 = .ok (.if_icmp .ge 48, 3) := by decide +kernel
theorem dX2_wake_45 : decode cX2_wake 45 = .ok (.aload_n 0, 1) := by decide +kernel
theorem dX2_wake_46 : decode cX2_wake 46 = .ok (.iload_n 3, 1) := by decide +kernel
theorem dX2_wake_47 : decode cX2_wake 47 = .ok (.iload_n 1, 1) := by decide +kernel
theorem dX2_wake_48 : decode cX2_wake 48 = .ok (.invokevirtual 66, 3) := by decide +kernel
theorem dX2_wake_51 : decode cX2_wake 51 = .ok (.ifCond .ne 10, 3) := by decide +kernel
theorem dX2_wake_54 : decode cX2_wake 54 = .ok (.aload_n 0, 1) := by decide +kernel
theorem dX2_wake_55 : decode cX2_wake 55 = .ok (.iload_n 3, 1) := by decide +kernel
theorem dX2_wake_56 : decode cX2_wake 56 = .ok (.iload_n 1, 1) := by decide +kernel
theorem dX2_wake_57 : decode cX2_wake 57 = .ok (.iconst 3, 1) := by decide +kernel
theorem dX2_wake_58 : decode cX2_wake 58 = .ok (.invokevirtual 98, 3) := by decide +kernel
theorem dX2_wake_61 : decode cX2_wake 61 = .ok (.aload_n 0, 1) := by decide +kernel
theorem dX2_wake_62 : decode cX2_wake 62 = .ok (.iload_n 3, 1) := by decide +kernel
theorem dX2_wake_63 : decode cX2_wake 63 = .ok (.invokevirtual 82, 3) := by decide +kernel
theorem dX2_wake_66 : decode cX2_wake 66 = .ok (.iload_n 1, 1) := by decide +kernel
theorem dX2_wake_67 : decode cX2_wake 67 = .ok (.if_icmp .ne 17, 3) := by decide +kernel
theorem dX2_wake_70 : decode cX2_wake 70 = .ok (.aload_n 0, 1) := by decide +kernel
theorem dX2_wake_71 : decode cX2_wake 71 = .ok (.iload_n 3, 1) := by decide +kernel
theorem dX2_wake_72 : decode cX2_wake 72 = .ok (.invokevirtual 85, 3) := by decide +kernel
theorem dX2_wake_75 : decode cX2_wake 75 = .ok (.ifCond .ne 9, 3) := by decide +kernel
theorem dX2_wake_78 : decode cX2_wake 78 = .ok (.aload_n 0, 1) := by decide +kernel
theorem dX2_wake_79 : decode cX2_wake 79 = .ok (.iload_n 3, 1) := by decide +kernel
theorem dX2_wake_80 : decode cX2_wake 80 = .ok (.iconst 3, 1) := by decide +kernel
theorem dX2_wake_81 : decode cX2_wake 81 = .ok (.invokevirtual 108, 3) := by decide +kernel
theorem dX2_wake_84 : decode cX2_wake 84 = .ok (.iinc 3 1, 3) := by decide +kernel
theorem dX2_wake_87 : decode cX2_wake 87 = .ok (.goto (-50), 3) := by decide +kernel
theorem dX2_wake_90 : decode cX2_wake 90 = .ok (.aload_n 0, 1) := by decide +kernel
theorem dX2_wake_91 : decode cX2_wake 91 = .ok (.iload_n 1, 1) := by decide +kernel
theorem dX2_wake_92 : decode cX2_wake 92 = .ok (.invokevirtual 75, 3) := by decide +kernel
theorem dX2_wake_95 : decode cX2_wake 95 = .ok (.iload_n 2, 1) := by decide +kernel
theorem dX2_wake_96 : decode cX2_wake 96 = .ok (.isub, 1) := by decide +kernel
theorem dX2_wake_97 : decode cX2_wake 97 = .ok (.ireturn, 1) := by decide +kernel
theorem dX2_letPass_0 : decode cX2_letPass 0 = .ok (.aload_n 0, 1) := by decide +kernel
theorem dX2_letPass_1 : decode cX2_letPass 1 = .ok (.iconst 2, 1) := by decide +kernel
theorem dX2_letPass_2 : decode cX2_letPass 2 = .ok (.invokevirtual 122, 3) := by decide +kernel
theorem dX2_letPass_5 : decode cX2_letPass 5 = .ok (.aload_n 0, 1) := by decide +kernel
theorem dX2_letPass_6 : decode cX2_letPass 6 = .ok (.iconst 3, 1) := by decide +kernel
theorem dX2_letPass_7 : decode cX2_letPass 7 = .ok (.invokevirtual 122, 3) := by decide +kernel
theorem dX2_letPass_10 : decode cX2_letPass 10 = .ok (.iadd, 1) := by decide +kernel
theorem dX2_letPass_11 : decode cX2_letPass 11 = .ok (.istore_n 2, 1) := by decide +kernel
theorem dX2_letPass_12 : decode cX2_letPass 12 = .ok (.iconst 0, 1) := by decide +kernel
theorem dX2_letPass_13 : decode cX2_letPass 13 = .ok (.istore_n 3, 1) := by decide +kernel
theorem dX2_letPass_14 : decode cX2_letPass 14 = .ok (.iload_n 3, 1) := by decide +kernel
theorem dX2_letPass_15 : decode cX2_letPass 15 = .ok (.iload_n 1, 1) := by decide +kernel
theorem dX2_letPass_16 : decode cX2_letPass 16 = .ok (.if_icmp .ge 33, 3) := by decide +kernel
theorem dX2_letPass_19 : decode cX2_letPass 19 = .ok (.iconst 0, 1) := by decide +kernel
theorem dX2_letPass_20 : decode cX2_letPass 20 = .ok (.istore 4, 2) := by decide +kernel
theorem dX2_letPass_22 : decode cX2_letPass 22 = .ok (.iload 4, 2) := by decide +kernel
theorem dX2_letPass_24 : decode cX2_letPass 24 = .ok (.aload_n 0, 1) := by decide +kernel
theorem dX2_letPass_25 : decode cX2_letPass 25 = .ok (.getfield 9, 3) := by decide +kernel
theorem dX2_letPass_28 : decode cX2_letPass 28 = .ok (.if_icmp .ge 15, 3) := by decide +kernel
theorem dX2_letPass_31 : decode cX2_letPass 31 = .ok (.aload_n 0, 1) := by decide +kernel
theorem dX2_letPass_32 : decode cX2_letPass 32 = .ok (.iload 4, 2) := by decide +kernel
theorem dX2_letPass_34 : decode cX2_letPass 34 = .ok (.invokevirtual 125, 3) := by decide +kernel
theorem dX2_letPass_37 : decode cX2_letPass 37 = .ok (.iinc 4 1, 3) := by decide +kernel
theorem dX2_letPass_40 : decode cX2_letPass 40 = .ok (.goto (-18), 3) := by decide +kernel
theorem dX2_letPass_43 : decode cX2_letPass 43 = .ok (.iinc 3 1, 3) := by decide +kernel
theorem dX2_letPass_46 : decode cX2_letPass 46 = .ok (.goto (-32), 3) := by decide +kernel
theorem dX2_letPass_49 : decode cX2_letPass 49 = .ok (.aload_n 0, 1) := by decide +kernel
theorem dX2_letPass_50 : decode cX2_letPass 50 = .ok (.iconst 2, 1) := by decide +kernel
theorem dX2_letPass_51 : decode cX2_letPass 51 = .ok (.invokevirtual 122, 3) := by decide +kernel
theorem dX2_letPass_54 : decode cX2_letPass 54 = .ok (.aload_n 0, 1) := by decide +kernel
theorem dX2_letPass_55 : decode cX2_letPass 55 = .ok (.iconst 3, 1) := by decide +kernel
theorem dX2_letPass_56 : decode cX2_letPass 56 = .ok (.invokevirtual 122, 3) := by decide +kernel
theorem dX2_letPass_59 : decode cX2_letPass 59 = .ok (.iadd, 1) := by decide +kernel
theorem dX2_letPass_60 : decode cX2_letPass 60 = .ok (.iload_n 2, 1) := by decide +kernel
theorem dX2_letPass_61 : decode cX2_letPass 61 = .ok (.isub, 1) := by decide +kernel
theorem dX2_letPass_62 : decode cX2_letPass 62 = .ok (.ireturn, 1) := by decide +kernel
theorem dX2_tickDeal_0 : decode cX2_tickDeal 0 = .ok (.iconst 0, 1) := by decide +kernel
theorem dX2_tickDeal_1 : decode cX2_tickDeal 1 = .ok (.istore_n 2, 1) := by decide +kernel
theorem dX2_tickDeal_2 : decode cX2_tickDeal 2 = .ok (.iload_n 2, 1) := by decide +kernel
theorem dX2_tickDeal_3 : decode cX2_tickDeal 3 = .ok (.bipush 6, 2) := by decide +kernel
theorem dX2_tickDeal_5 : decode cX2_tickDeal 5 = .ok (.if_icmp .ge 40, 3) := by decide +kernel
theorem dX2_tickDeal_8 : decode cX2_tickDeal 8 = .ok (.aload_n 0, 1) := by decide +kernel
theorem dX2_tickDeal_9 : decode cX2_tickDeal 9 = .ok (.iload_n 1, 1) := by decide +kernel
theorem dX2_tickDeal_10 : decode cX2_tickDeal 10 = .ok (.iload_n 2, 1) := by decide +kernel
theorem dX2_tickDeal_11 : decode cX2_tickDeal 11 = .ok (.invokevirtual 129, 3) := by decide +kernel
theorem dX2_tickDeal_14 : decode cX2_tickDeal 14 = .ok (.ifCond .eq 25, 3) := by decide +kernel
theorem dX2_tickDeal_17 : decode cX2_tickDeal 17 = .ok (.iconst 0, 1) := by decide +kernel
theorem dX2_tickDeal_18 : decode cX2_tickDeal 18 = .ok (.istore_n 3, 1) := by decide +kernel
theorem dX2_tickDeal_19 : decode cX2_tickDeal 19 = .ok (.iload_n 3, 1) := by decide +kernel
theorem dX2_tickDeal_20 : decode cX2_tickDeal 20 = .ok (.bipush 6, 2) := by decide +kernel
theorem dX2_tickDeal_22 : decode cX2_tickDeal 22 = .ok (.if_icmp .ge 17, 3) := by decide +kernel
theorem dX2_tickDeal_25 : decode cX2_tickDeal 25 = .ok (.aload_n 0, 1) := by decide +kernel
theorem dX2_tickDeal_26 : decode cX2_tickDeal 26 = .ok (.iload_n 1, 1) := by decide +kernel
theorem dX2_tickDeal_27 : decode cX2_tickDeal 27 = .ok (.iload_n 2, 1) := by decide +kernel
theorem dX2_tickDeal_28 : decode cX2_tickDeal 28 = .ok (.iload_n 3, 1) := by decide +kernel
theorem dX2_tickDeal_29 : decode cX2_tickDeal 29 = .ok (.invokevirtual 132, 3) := by decide +kernel
theorem dX2_tickDeal_32 : decode cX2_tickDeal 32 = .ok (.pop, 1) := by decide +kernel
theorem dX2_tickDeal_33 : decode cX2_tickDeal 33 = .ok (.iinc 3 1, 3) := by decide +kernel
theorem dX2_tickDeal_36 : decode cX2_tickDeal 36 = .ok (.goto (-17), 3) := by decide +kernel
theorem dX2_tickDeal_39 : decode cX2_tickDeal 39 = .ok (.iinc 2 1, 3) := by decide +kernel
theorem dX2_tickDeal_42 : decode cX2_tickDeal 42 = .ok (.goto (-40), 3) := by decide +kernel
theorem dX2_tickDeal_45 : decode cX2_tickDeal 45 = .ok (.return_, 1) := by decide +kernel
theorem dX2_losesPatience_0 : decode cX2_losesPatience 0 = .ok (.aload_n 0, 1) := by decide +kernel
theorem dX2_losesPatience_1 : decode cX2_losesPatience 1 = .ok (.iload_n 2, 1) := by decide +kernel
theorem dX2_losesPatience_2 : decode cX2_losesPatience 2 = .ok (.invokevirtual 79, 3) := by decide +kernel
theorem dX2_losesPatience_5 : decode cX2_losesPatience 5 = .ok (.ifCond .eq 13, 3) := by decide +kernel
theorem dX2_losesPatience_8 : decode cX2_losesPatience 8 = .ok (.aload_n 0, 1) := by decide +kernel
theorem dX2_losesPatience_9 : decode cX2_losesPatience 9 = .ok (.iload_n 1, 1) := by decide +kernel
theorem dX2_losesPatience_10 : decode cX2_losesPatience 10 = .ok (.iload_n 2, 1) := by decide +kernel
theorem dX2_losesPatience_11 : decode cX2_losesPatience 11 = .ok (.invokevirtual 66, 3) := by decide +kernel
theorem dX2_losesPatience_14 : decode cX2_losesPatience 14 = .ok (.iconst 1, 1) := by decide +kernel
theorem dX2_losesPatience_15 : decode cX2_losesPatience 15 = .ok (.if_icmp .eq 5, 3) := by decide +kernel
theorem dX2_losesPatience_18 : decode cX2_losesPatience 18 = .ok (.iconst 0, 1) := by decide +kernel
theorem dX2_losesPatience_19 : decode cX2_losesPatience 19 = .ok (.ireturn, 1) := by decide +kernel
theorem dX2_losesPatience_20 : decode cX2_losesPatience 20 = .ok (.iload_n 1, 1) := by decide +kernel
theorem dX2_losesPatience_21 : decode cX2_losesPatience 21 = .ok (.bipush 6, 2) := by decide +kernel
theorem dX2_losesPatience_23 : decode cX2_losesPatience 23 = .ok (.imul, 1) := by decide +kernel
theorem dX2_losesPatience_24 : decode cX2_losesPatience 24 = .ok (.iload_n 2, 1) := by decide +kernel
theorem dX2_losesPatience_25 : decode cX2_losesPatience 25 = .ok (.iadd, 1) := by decide +kernel
theorem dX2_losesPatience_26 : decode cX2_losesPatience 26 = .ok (.istore_n 3, 1) := by decide +kernel
theorem dX2_losesPatience_27 : decode cX2_losesPatience 27 = .ok (.aload_n 0, 1) := by decide +kernel
theorem dX2_losesPatience_28 : decode cX2_losesPatience 28 = .ok (.getfield 37, 3) := by decide +kernel
theorem dX2_losesPatience_31 : decode cX2_losesPatience 31 = .ok (.iload_n 3, 1) := by decide +kernel
theorem dX2_losesPatience_32 : decode cX2_losesPatience 32 = .ok (.dup2, 1) := by decide +kernel
theorem dX2_losesPatience_33 : decode cX2_losesPatience 33 = .ok (.iaload, 1) := by decide +kernel
theorem dX2_losesPatience_34 : decode cX2_losesPatience 34 = .ok (.iconst 1, 1) := by decide +kernel
theorem dX2_losesPatience_35 : decode cX2_losesPatience 35 = .ok (.isub, 1) := by decide +kernel
theorem dX2_losesPatience_36 : decode cX2_losesPatience 36 = .ok (.iastore, 1) := by decide +kernel
theorem dX2_losesPatience_37 : decode cX2_losesPatience 37 = .ok (.aload_n 0, 1) := by decide +kernel
theorem dX2_losesPatience_38 : decode cX2_losesPatience 38 = .ok (.getfield 37, 3) := by decide +kernel
theorem dX2_losesPatience_41 : decode cX2_losesPatience 41 = .ok (.iload_n 3, 1) := by decide +kernel
theorem dX2_losesPatience_42 : decode cX2_losesPatience 42 = .ok (.iaload, 1) := by decide +kernel
theorem dX2_losesPatience_43 : decode cX2_losesPatience 43 = .ok (.ifCond .le 5, 3) := by decide +kernel
theorem dX2_losesPatience_46 : decode cX2_losesPatience 46 = .ok (.iconst 0, 1) := by decide +kernel
theorem dX2_losesPatience_47 : decode cX2_losesPatience 47 = .ok (.ireturn, 1) := by decide +kernel
theorem dX2_losesPatience_48 : decode cX2_losesPatience 48 = .ok (.aload_n 0, 1) := by decide +kernel
theorem dX2_losesPatience_49 : decode cX2_losesPatience 49 = .ok (.getfield 37, 3) := by decide +kernel
theorem dX2_losesPatience_52 : decode cX2_losesPatience 52 = .ok (.iload_n 3, 1) := by decide +kernel
theorem dX2_losesPatience_53 : decode cX2_losesPatience 53 = .ok (.aload_n 0, 1) := by decide +kernel
theorem dX2_losesPatience_54 : decode cX2_losesPatience 54 = .ok (.getfield 21, 3) := by decide +kernel
theorem dX2_losesPatience_57 : decode cX2_losesPatience 57 = .ok (.iastore, 1) := by decide +kernel
theorem dX2_losesPatience_58 : decode cX2_losesPatience 58 = .ok (.iconst 1, 1) := by decide +kernel
theorem dX2_losesPatience_59 : decode cX2_losesPatience 59 = .ok (.ireturn, 1) := by decide +kernel
theorem dX2_changePatience_0 : decode cX2_changePatience 0 = .ok (.aload_n 0, 1) := by decide +kernel
theorem dX2_changePatience_1 : decode cX2_changePatience 1 = .ok (.getfield 21, 3) := by decide +kernel
theorem dX2_changePatience_4 : decode cX2_changePatience 4 = .ok (.istore_n 2, 1) := by decide +kernel
theorem dX2_changePatience_5 : decode cX2_changePatience 5 = .ok (.aload_n 0, 1) := by decide +kernel
theorem dX2_changePatience_6 : decode cX2_changePatience 6 = .ok (.iload_n 1, 1) := by decide +kernel
theorem dX2_changePatience_7 : decode cX2_changePatience 7 = .ok (.putfield 21, 3) := by decide +kernel
theorem dX2_changePatience_10 : decode cX2_changePatience 10 = .ok (.iload_n 2, 1) := by decide +kernel
theorem dX2_changePatience_11 : decode cX2_changePatience 11 = .ok (.ireturn, 1) := by decide +kernel
theorem dX2_countOpen_0 : decode cX2_countOpen 0 = .ok (.iconst 0, 1) := by decide +kernel
theorem dX2_countOpen_1 : decode cX2_countOpen 1 = .ok (.istore_n 1, 1) := by decide +kernel
theorem dX2_countOpen_2 : decode cX2_countOpen 2 = .ok (.iconst 0, 1) := by decide +kernel
theorem dX2_countOpen_3 : decode cX2_countOpen 3 = .ok (.istore_n 2, 1) := by decide +kernel
theorem dX2_countOpen_4 : decode cX2_countOpen 4 = .ok (.iload_n 2, 1) := by decide +kernel
theorem dX2_countOpen_5 : decode cX2_countOpen 5 = .ok (.aload_n 0, 1) := by decide +kernel
theorem dX2_countOpen_6 : decode cX2_countOpen 6 = .ok (.getfield 9, 3) := by decide +kernel
theorem dX2_countOpen_9 : decode cX2_countOpen 9 = .ok (.if_icmp .ge 20, 3) := by decide +kernel
theorem dX2_countOpen_12 : decode cX2_countOpen 12 = .ok (.aload_n 0, 1) := by decide +kernel
theorem dX2_countOpen_13 : decode cX2_countOpen 13 = .ok (.iload_n 2, 1) := by decide +kernel
theorem dX2_countOpen_14 : decode cX2_countOpen 14 = .ok (.invokevirtual 136, 3) := by decide +kernel
theorem dX2_countOpen_17 : decode cX2_countOpen 17 = .ok (.ifCond .eq 6, 3) := by decide +kernel
theorem dX2_countOpen_20 : decode cX2_countOpen 20 = .ok (.iinc 1 1, 3) := by decide +kernel
theorem dX2_countOpen_23 : decode cX2_countOpen 23 = .ok (.iinc 2 1, 3) := by decide +kernel
theorem dX2_countOpen_26 : decode cX2_countOpen 26 = .ok (.goto (-22), 3) := by decide +kernel
theorem dX2_countOpen_29 : decode cX2_countOpen 29 = .ok (.iload_n 1, 1) := by decide +kernel
theorem dX2_countOpen_30 : decode cX2_countOpen 30 = .ok (.ireturn, 1) := by decide +kernel
theorem dX2_isOpen_0 : decode cX2_isOpen 0 = .ok (.iconst 0, 1) := by decide +kernel
theorem dX2_isOpen_1 : decode cX2_isOpen 1 = .ok (.istore_n 2, 1) := by decide +kernel
theorem dX2_isOpen_2 : decode cX2_isOpen 2 = .ok (.iload_n 2, 1) := by decide +kernel
theorem dX2_isOpen_3 : decode cX2_isOpen 3 = .ok (.bipush 6, 2) := by decide +kernel
theorem dX2_isOpen_5 : decode cX2_isOpen 5 = .ok (.if_icmp .ge 27, 3) := by decide +kernel
theorem dX2_isOpen_8 : decode cX2_isOpen 8 = .ok (.aload_n 0, 1) := by decide +kernel
theorem dX2_isOpen_9 : decode cX2_isOpen 9 = .ok (.iload_n 1, 1) := by decide +kernel
theorem dX2_isOpen_10 : decode cX2_isOpen 10 = .ok (.iload_n 2, 1) := by decide +kernel
theorem dX2_isOpen_11 : decode cX2_isOpen 11 = .ok (.invokevirtual 66, 3) := by decide +kernel
theorem dX2_isOpen_14 : decode cX2_isOpen 14 = .ok (.istore_n 3, 1) := by decide +kernel
theorem dX2_isOpen_15 : decode cX2_isOpen 15 = .ok (.iload_n 3, 1) := by decide +kernel
theorem dX2_isOpen_16 : decode cX2_isOpen 16 = .ok (.ifCond .eq 8, 3) := by decide +kernel
theorem dX2_isOpen_19 : decode cX2_isOpen 19 = .ok (.iload_n 3, 1) := by decide +kernel
theorem dX2_isOpen_20 : decode cX2_isOpen 20 = .ok (.iconst 1, 1) := by decide +kernel
theorem dX2_isOpen_21 : decode cX2_isOpen 21 = .ok (.if_icmp .ne 5, 3) := by decide +kernel
theorem dX2_isOpen_24 : decode cX2_isOpen 24 = .ok (.iconst 1, 1) := by decide +kernel
theorem dX2_isOpen_25 : decode cX2_isOpen 25 = .ok (.ireturn, 1) := by decide +kernel
theorem dX2_isOpen_26 : decode cX2_isOpen 26 = .ok (.iinc 2 1, 3) := by decide +kernel
theorem dX2_isOpen_29 : decode cX2_isOpen 29 = .ok (.goto (-27), 3) := by decide +kernel
theorem dX2_isOpen_32 : decode cX2_isOpen 32 = .ok (.iconst 0, 1) := by decide +kernel
theorem dX2_isOpen_33 : decode cX2_isOpen 33 = .ok (.ireturn, 1) := by decide +kernel
theorem dX2_countStuck_0 : decode cX2_countStuck 0 = .ok (.iconst 0, 1) := by decide +kernel
theorem dX2_countStuck_1 : decode cX2_countStuck 1 = .ok (.istore_n 1, 1) := by decide +kernel
theorem dX2_countStuck_2 : decode cX2_countStuck 2 = .ok (.iconst 0, 1) := by decide +kernel
theorem dX2_countStuck_3 : decode cX2_countStuck 3 = .ok (.istore_n 2, 1) := by decide +kernel
theorem dX2_countStuck_4 : decode cX2_countStuck 4 = .ok (.iload_n 2, 1) := by decide +kernel
theorem dX2_countStuck_5 : decode cX2_countStuck 5 = .ok (.aload_n 0, 1) := by decide +kernel
theorem dX2_countStuck_6 : decode cX2_countStuck 6 = .ok (.getfield 9, 3) := by decide +kernel
theorem dX2_countStuck_9 : decode cX2_countStuck 9 = .ok (.if_icmp .ge 20, 3) := by decide +kernel
theorem dX2_countStuck_12 : decode cX2_countStuck 12 = .ok (.aload_n 0, 1) := by decide +kernel
theorem dX2_countStuck_13 : decode cX2_countStuck 13 = .ok (.iload_n 2, 1) := by decide +kernel
theorem dX2_countStuck_14 : decode cX2_countStuck 14 = .ok (.invokevirtual 139, 3) := by decide +kernel
theorem dX2_countStuck_17 : decode cX2_countStuck 17 = .ok (.ifCond .eq 6, 3) := by decide +kernel
theorem dX2_countStuck_20 : decode cX2_countStuck 20 = .ok (.iinc 1 1, 3) := by decide +kernel
theorem dX2_countStuck_23 : decode cX2_countStuck 23 = .ok (.iinc 2 1, 3) := by decide +kernel
theorem dX2_countStuck_26 : decode cX2_countStuck 26 = .ok (.goto (-22), 3) := by decide +kernel
theorem dX2_countStuck_29 : decode cX2_countStuck 29 = .ok (.iload_n 1, 1) := by decide +kernel
theorem dX2_countStuck_30 : decode cX2_countStuck 30 = .ok (.ireturn, 1) := by decide +kernel
theorem dX2_isStuck_0 : decode cX2_isStuck 0 = .ok (.iconst 0, 1) := by decide +kernel
theorem dX2_isStuck_1 : decode cX2_isStuck 1 = .ok (.istore_n 2, 1) := by decide +kernel
theorem dX2_isStuck_2 : decode cX2_isStuck 2 = .ok (.iconst 0, 1) := by decide +kernel
theorem dX2_isStuck_3 : decode cX2_isStuck 3 = .ok (.istore_n 3, 1) := by decide +kernel
theorem dX2_isStuck_4 : decode cX2_isStuck 4 = .ok (.iload_n 3, 1) := by decide +kernel
theorem dX2_isStuck_5 : decode cX2_isStuck 5 = .ok (.bipush 6, 2) := by decide +kernel
theorem dX2_isStuck_7 : decode cX2_isStuck 7 = .ok (.if_icmp .ge 42, 3) := by decide +kernel
theorem dX2_isStuck_10 : decode cX2_isStuck 10 = .ok (.aload_n 0, 1) := by decide +kernel
theorem dX2_isStuck_11 : decode cX2_isStuck 11 = .ok (.iload_n 1, 1) := by decide +kernel
theorem dX2_isStuck_12 : decode cX2_isStuck 12 = .ok (.iload_n 3, 1) := by decide +kernel
theorem dX2_isStuck_13 : decode cX2_isStuck 13 = .ok (.invokevirtual 142, 3) := by decide +kernel
theorem dX2_isStuck_16 : decode cX2_isStuck 16 = .ok (.iconst (-1), 1) := by decide +kernel
theorem dX2_isStuck_17 : decode cX2_isStuck 17 = .ok (.if_icmp .eq 5, 3) := by decide +kernel
theorem dX2_isStuck_20 : decode cX2_isStuck 20 = .ok (.iconst 0, 1) := by decide +kernel
theorem dX2_isStuck_21 : decode cX2_isStuck 21 = .ok (.ireturn, 1) := by decide +kernel
theorem dX2_isStuck_22 : decode cX2_isStuck 22 = .ok (.aload_n 0, 1) := by decide +kernel
theorem dX2_isStuck_23 : decode cX2_isStuck 23 = .ok (.iload_n 3, 1) := by decide +kernel
theorem dX2_isStuck_24 : decode cX2_isStuck 24 = .ok (.invokevirtual 79, 3) := by decide +kernel
theorem dX2_isStuck_27 : decode cX2_isStuck 27 = .ok (.ifCond .eq 16, 3) := by decide +kernel
theorem dX2_isStuck_30 : decode cX2_isStuck 30 = .ok (.aload_n 0, 1) := by decide +kernel
theorem dX2_isStuck_31 : decode cX2_isStuck 31 = .ok (.iload_n 1, 1) := by decide +kernel
theorem dX2_isStuck_32 : decode cX2_isStuck 32 = .ok (.iload_n 3, 1) := by decide +kernel
theorem dX2_isStuck_33 : decode cX2_isStuck 33 = .ok (.invokevirtual 66, 3) := by decide +kernel
theorem dX2_isStuck_36 : decode cX2_isStuck 36 = .ok (.iconst 1, 1) := by decide +kernel
theorem dX2_isStuck_37 : decode cX2_isStuck 37 = .ok (.if_icmp .ne 6, 3) := by decide +kernel
theorem dX2_isStuck_40 : decode cX2_isStuck 40 = .ok (.iinc 2 1, 3) := by decide +kernel
theorem dX2_isStuck_43 : decode cX2_isStuck 43 = .ok (.iinc 3 1, 3) := by decide +kernel
theorem dX2_isStuck_46 : decode cX2_isStuck 46 = .ok (.goto (-42), 3) := by decide +kernel
theorem dX2_isStuck_49 : decode cX2_isStuck 49 = .ok (.iload_n 2, 1) := by decide +kernel
theorem dX2_isStuck_50 : decode cX2_isStuck 50 = .ok (.ifCond .le 7, 3) := by decide +kernel
theorem dX2_isStuck_53 : decode cX2_isStuck 53 = .ok (.iconst 1, 1) := by decide +kernel
theorem dX2_isStuck_54 : decode cX2_isStuck 54 = .ok (.goto 4, 3) := by decide +kernel
theorem dX2_isStuck_57 : decode cX2_isStuck 57 = .ok (.iconst 0, 1) := by decide +kernel
theorem dX2_isStuck_58 : decode cX2_isStuck 58 = .ok (.ireturn, 1) := by decide +kernel
theorem dX2_countMembers_0 : decode cX2_countMembers 0 = .ok (.aload_n 0, 1) := by decide +kernel
theorem dX2_countMembers_1 : decode cX2_countMembers 1 = .ok (.getfield 9, 3) := by decide +kernel
theorem dX2_countMembers_4 : decode cX2_countMembers 4 = .ok (.bipush 6, 2) := by decide +kernel
theorem dX2_countMembers_6 : decode cX2_countMembers 6 = .ok (.imul, 1) := by decide +kernel
theorem dX2_countMembers_7 : decode cX2_countMembers 7 = .ok (.aload_n 0, 1) := by decide +kernel
theorem dX2_countMembers_8 : decode cX2_countMembers 8 = .ok (.iconst (-1), 1) := by decide +kernel
theorem dX2_countMembers_9 : decode cX2_countMembers 9 = .ok (.invokevirtual 122, 3) := by decide +kernel
theorem dX2_countMembers_12 : decode cX2_countMembers 12 = .ok (.isub, 1) := by decide +kernel
theorem dX2_countMembers_13 : decode cX2_countMembers 13 = .ok (.ireturn, 1) := by decide +kernel
theorem dX2_countInState_0 : decode cX2_countInState 0 = .ok (.iconst 0, 1) := by decide +kernel
theorem dX2_countInState_1 : decode cX2_countInState 1 = .ok (.istore_n 2, 1) := by decide +kernel
theorem dX2_countInState_2 : decode cX2_countInState 2 = .ok (.iconst 0, 1) := by decide +kernel
theorem dX2_countInState_3 : decode cX2_countInState 3 = .ok (.istore_n 3, 1) := by decide +kernel
theorem dX2_countInState_4 : decode cX2_countInState 4 = .ok (.iload_n 3, 1) := by decide +kernel
theorem dX2_countInState_5 : decode cX2_countInState 5 = .ok (.aload_n 0, 1) := by decide +kernel
theorem dX2_countInState_6 : decode cX2_countInState 6 = .ok (.getfield 9, 3) := by decide +kernel
theorem dX2_countInState_9 : decode cX2_countInState 9 = .ok (.if_icmp .ge 39, 3) := by decide +kernel
theorem dX2_countInState_12 : decode cX2_countInState 12 = .ok (.iconst 0, 1) := by decide +kernel
theorem dX2_countInState_13 : decode cX2_countInState 13 = .ok (.istore 4, 2) := by decide +kernel
theorem dX2_countInState_15 : decode cX2_countInState 15 = .ok (.iload 4, 2) := by decide +kernel
theorem dX2_countInState_17 : decode cX2_countInState 17 = .ok (.bipush 6, 2) := by decide +kernel
theorem dX2_countInState_19 : decode cX2_countInState 19 = .ok (.if_icmp .ge 23, 3) := by decide +kernel
theorem dX2_countInState_22 : decode cX2_countInState 22 = .ok (.aload_n 0, 1) := by decide +kernel
theorem dX2_countInState_23 : decode cX2_countInState 23 = .ok (.iload_n 3, 1) := by decide +kernel
theorem dX2_countInState_24 : decode cX2_countInState 24 = .ok (.iload 4, 2) := by decide +kernel
theorem dX2_countInState_26 : decode cX2_countInState 26 = .ok (.invokevirtual 66, 3) := by decide +kernel
theorem dX2_countInState_29 : decode cX2_countInState 29 = .ok (.iload_n 1, 1) := by decide +kernel
theorem dX2_countInState_30 : decode cX2_countInState 30 = .ok (.if_icmp .ne 6, 3) := by decide +kernel
theorem dX2_countInState_33 : decode cX2_countInState 33 = .ok (.iinc 2 1, 3) := by decide +kernel
theorem dX2_countInState_36 : decode cX2_countInState 36 = .ok (.iinc 4 1, 3) := by decide +kernel
theorem dX2_countInState_39 : decode cX2_countInState 39 = .ok (.goto (-24), 3) := by decide +kernel
theorem dX2_countInState_42 : decode cX2_countInState 42 = .ok (.iinc 3 1, 3) := by decide +kernel
theorem dX2_countInState_45 : decode cX2_countInState 45 = .ok (.goto (-41), 3) := by decide +kernel
theorem dX2_countInState_48 : decode cX2_countInState 48 = .ok (.iload_n 2, 1) := by decide +kernel
theorem dX2_countInState_49 : decode cX2_countInState 49 = .ok (.ireturn, 1) := by decide +kernel
theorem dX2_reasonAgainstYes_0 : decode cX2_reasonAgainstYes 0 = .ok (.aload_n 0, 1) := by decide +kernel
theorem dX2_reasonAgainstYes_1 : decode cX2_reasonAgainstYes 1 = .ok (.iload_n 1, 1) := by decide +kernel
theorem dX2_reasonAgainstYes_2 : decode cX2_reasonAgainstYes 2 = .ok (.iload_n 2, 1) := by decide +kernel
theorem dX2_reasonAgainstYes_3 : decode cX2_reasonAgainstYes 3 = .ok (.invokevirtual 66, 3) := by decide +kernel
theorem dX2_reasonAgainstYes_6 : decode cX2_reasonAgainstYes 6 = .ok (.istore_n 3, 1) := by decide +kernel
theorem dX2_reasonAgainstYes_7 : decode cX2_reasonAgainstYes 7 = .ok (.iload_n 3, 1) := by decide +kernel
theorem dX2_reasonAgainstYes_8 : decode cX2_reasonAgainstYes 8 = .ok (.iconst (-1), 1) := by decide +kernel
theorem dX2_reasonAgainstYes_9 : decode cX2_reasonAgainstYes 9 = .ok (.if_icmp .ne 5, 3) := by decide +kernel
theorem dX2_reasonAgainstYes_12 : decode cX2_reasonAgainstYes 12 = .ok (.iconst 1, 1) := by decide +kernel
theorem dX2_reasonAgainstYes_13 : decode cX2_reasonAgainstYes 13 = .ok (.ireturn, 1) := by decide +kernel
theorem dX2_reasonAgainstYes_14 : decode cX2_reasonAgainstYes 14 = .ok (.aload_n 0, 1) := by decide +kernel
theorem dX2_reasonAgainstYes_15 : decode cX2_reasonAgainstYes 15 = .ok (.iload_n 2, 1) := by decide +kernel
theorem dX2_reasonAgainstYes_16 : decode cX2_reasonAgainstYes 16 = .ok (.invokevirtual 79, 3) := by decide +kernel
theorem dX2_reasonAgainstYes_19 : decode cX2_reasonAgainstYes 19 = .ok (.ifCond .ne 5, 3) := by decide +kernel
theorem dX2_reasonAgainstYes_22 : decode cX2_reasonAgainstYes 22 = .ok (.iconst 2, 1) := by decide +kernel
theorem dX2_reasonAgainstYes_23 : decode cX2_reasonAgainstYes 23 = .ok (.ireturn, 1) := by decide +kernel
theorem dX2_reasonAgainstYes_24 : decode cX2_reasonAgainstYes 24 = .ok (.iload_n 3, 1) := by decide +kernel
theorem dX2_reasonAgainstYes_25 : decode cX2_reasonAgainstYes 25 = .ok (.ifCond .eq 5, 3) := by decide +kernel
theorem dX2_reasonAgainstYes_28 : decode cX2_reasonAgainstYes 28 = .ok (.iconst 3, 1) := by decide +kernel
theorem dX2_reasonAgainstYes_29 : decode cX2_reasonAgainstYes 29 = .ok (.ireturn, 1) := by decide +kernel
theorem dX2_reasonAgainstYes_30 : decode cX2_reasonAgainstYes 30 = .ok (.aload_n 0, 1) := by decide +kernel
theorem dX2_reasonAgainstYes_31 : decode cX2_reasonAgainstYes 31 = .ok (.iload_n 1, 1) := by decide +kernel
theorem dX2_reasonAgainstYes_32 : decode cX2_reasonAgainstYes 32 = .ok (.iload_n 2, 1) := by decide +kernel
theorem dX2_reasonAgainstYes_33 : decode cX2_reasonAgainstYes 33 = .ok (.invokevirtual 95, 3) := by decide +kernel
theorem dX2_reasonAgainstYes_36 : decode cX2_reasonAgainstYes 36 = .ok (.ifCond .eq 7, 3) := by decide +kernel
theorem dX2_reasonAgainstYes_39 : decode cX2_reasonAgainstYes 39 = .ok (.iconst 4, 1) := by decide +kernel
theorem dX2_reasonAgainstYes_40 : decode cX2_reasonAgainstYes 40 = .ok (.goto 4, 3) := by decide +kernel
theorem dX2_reasonAgainstYes_43 : decode cX2_reasonAgainstYes 43 = .ok (.iconst 0, 1) := by decide +kernel
theorem dX2_reasonAgainstYes_44 : decode cX2_reasonAgainstYes 44 = .ok (.ireturn, 1) := by decide +kernel
theorem dX2_helperFor_0 : decode cX2_helperFor 0 = .ok (.aload_n 0, 1) := by decide +kernel
theorem dX2_helperFor_1 : decode cX2_helperFor 1 = .ok (.iload_n 1, 1) := by decide +kernel
theorem dX2_helperFor_2 : decode cX2_helperFor 2 = .ok (.invokevirtual 82, 3) := by decide +kernel
theorem dX2_helperFor_5 : decode cX2_helperFor 5 = .ok (.istore_n 3, 1) := by decide +kernel
theorem dX2_helperFor_6 : decode cX2_helperFor 6 = .ok (.iconst 0, 1) := by decide +kernel
theorem dX2_helperFor_7 : decode cX2_helperFor 7 = .ok (.istore 4, 2) := by decide +kernel
theorem dX2_helperFor_9 : decode cX2_helperFor 9 = .ok (.iload 4, 2) := by decide +kernel
theorem dX2_helperFor_11 : decode cX2_helperFor 11 = .ok (.bipush 6, 2) := by decide +kernel
theorem dX2_helperFor_13 : decode cX2_helperFor 13 = .ok (.if_icmp .ge 54, 3) := by decide +kernel
theorem dX2_helperFor_16 : decode cX2_helperFor 16 = .ok (.iload 4, 2) := by decide +kernel
theorem dX2_helperFor_18 : decode cX2_helperFor 18 = .ok (.iload_n 3, 1) := by decide +kernel
theorem dX2_helperFor_19 : decode cX2_helperFor 19 = .ok (.if_icmp .eq 16, 3) := by decide +kernel
theorem dX2_helperFor_22 : decode cX2_helperFor 22 = .ok (.aload_n 0, 1) := by decide +kernel
theorem dX2_helperFor_23 : decode cX2_helperFor 23 = .ok (.iload_n 1, 1) := by decide +kernel
theorem dX2_helperFor_24 : decode cX2_helperFor 24 = .ok (.iload 4, 2) := by decide +kernel
theorem dX2_helperFor_26 : decode cX2_helperFor 26 = .ok (.invokevirtual 66, 3) := by decide +kernel
theorem dX2_helperFor_29 : decode cX2_helperFor 29 = .ok (.invokestatic 145, 3) := by decide +kernel
theorem dX2_helperFor_32 : decode cX2_helperFor 32 = .ok (.ifCond .eq 7, 3) := by decide +kernel
theorem dX2_helperFor_35 : decode cX2_helperFor 35 = .ok (.iconst 1, 1) := by decide +kernel
theorem dX2_helperFor_36 : decode cX2_helperFor 36 = .ok (.goto 4, 3) := by decide +kernel
theorem dX2_helperFor_39 : decode cX2_helperFor 39 = .ok (.iconst 0, 1) := by decide +kernel
theorem dX2_helperFor_40 : decode cX2_helperFor 40 = .ok (.istore 5, 2) := by decide +kernel
theorem dX2_helperFor_42 : decode cX2_helperFor 42 = .ok (.iload 5, 2) := by decide +kernel
theorem dX2_helperFor_44 : decode cX2_helperFor 44 = .ok (.ifCond .eq 17, 3) := by decide +kernel
theorem dX2_helperFor_47 : decode cX2_helperFor 47 = .ok (.aload_n 0, 1) := by decide +kernel
theorem dX2_helperFor_48 : decode cX2_helperFor 48 = .ok (.iload_n 1, 1) := by decide +kernel
theorem dX2_helperFor_49 : decode cX2_helperFor 49 = .ok (.iload_n 2, 1) := by decide +kernel
theorem dX2_helperFor_50 : decode cX2_helperFor 50 = .ok (.iload 4, 2) := by decide +kernel
theorem dX2_helperFor_52 : decode cX2_helperFor 52 = .ok (.invokevirtual 115, 3) := by decide +kernel
theorem dX2_helperFor_55 : decode cX2_helperFor 55 = .ok (.ifCond .eq 6, 3) := by decide +kernel
theorem dX2_helperFor_58 : decode cX2_helperFor 58 = .ok (.iload 4, 2) := by decide +kernel
theorem dX2_helperFor_60 : decode cX2_helperFor 60 = .ok (.ireturn, 1) := by decide +kernel
theorem dX2_helperFor_61 : decode cX2_helperFor 61 = .ok (.iinc 4 1, 3) := by decide +kernel
theorem dX2_helperFor_64 : decode cX2_helperFor 64 = .ok (.goto (-55), 3) := by decide +kernel
theorem dX2_helperFor_67 : decode cX2_helperFor 67 = .ok (.iconst (-1), 1) := by decide +kernel
theorem dX2_helperFor_68 : decode cX2_helperFor 68 = .ok (.ireturn, 1) := by decide +kernel
theorem dX2_isAnswer_0 : decode cX2_isAnswer 0 = .ok (.iload_n 0, 1) := by decide +kernel
theorem dX2_isAnswer_1 : decode cX2_isAnswer 1 = .ok (.ifCond .eq 10, 3) := by decide +kernel
theorem dX2_isAnswer_4 : decode cX2_isAnswer 4 = .ok (.iload_n 0, 1) := by decide +kernel
theorem dX2_isAnswer_5 : decode cX2_isAnswer 5 = .ok (.invokestatic 69, 3) := by decide +kernel
theorem dX2_isAnswer_8 : decode cX2_isAnswer 8 = .ok (.ifCond .eq 7, 3) := by decide +kernel
theorem dX2_isAnswer_11 : decode cX2_isAnswer 11 = .ok (.iconst 1, 1) := by decide +kernel
theorem dX2_isAnswer_12 : decode cX2_isAnswer 12 = .ok (.goto 4, 3) := by decide +kernel
theorem dX2_isAnswer_15 : decode cX2_isAnswer 15 = .ok (.iconst 0, 1) := by decide +kernel
theorem dX2_isAnswer_16 : decode cX2_isAnswer 16 = .ok (.ireturn, 1) := by decide +kernel
theorem dX2_hash_0 : decode cX2_hash 0 = .ok (.ldc2_w 148, 3) := by decide +kernel
theorem dX2_hash_3 : decode cX2_hash 3 = .ok (.lstore_n 1, 1) := by decide +kernel
theorem dX2_hash_4 : decode cX2_hash 4 = .ok (.ldc2_w 150, 3) := by decide +kernel
theorem dX2_hash_7 : decode cX2_hash 7 = .ok (.lload_n 1, 1) := by decide +kernel
theorem dX2_hash_8 : decode cX2_hash 8 = .ok (.lmul, 1) := by decide +kernel
theorem dX2_hash_9 : decode cX2_hash 9 = .ok (.aload_n 0, 1) := by decide +kernel
theorem dX2_hash_10 : decode cX2_hash 10 = .ok (.getfield 9, 3) := by decide +kernel
theorem dX2_hash_13 : decode cX2_hash 13 = .ok (.i2l, 1) := by decide +kernel
theorem dX2_hash_14 : decode cX2_hash 14 = .ok (.ladd, 1) := by decide +kernel
theorem dX2_hash_15 : decode cX2_hash 15 = .ok (.lstore_n 1, 1) := by decide +kernel
theorem dX2_hash_16 : decode cX2_hash 16 = .ok (.ldc2_w 150, 3) := by decide +kernel
theorem dX2_hash_19 : decode cX2_hash 19 = .ok (.lload_n 1, 1) := by decide +kernel
theorem dX2_hash_20 : decode cX2_hash 20 = .ok (.lmul, 1) := by decide +kernel
theorem dX2_hash_21 : decode cX2_hash 21 = .ok (.aload_n 0, 1) := by decide +kernel
theorem dX2_hash_22 : decode cX2_hash 22 = .ok (.invokevirtual 152, 3) := by decide +kernel
theorem dX2_hash_25 : decode cX2_hash 25 = .ok (.i2l, 1) := by decide +kernel
theorem dX2_hash_26 : decode cX2_hash 26 = .ok (.ladd, 1) := by decide +kernel
theorem dX2_hash_27 : decode cX2_hash 27 = .ok (.lstore_n 1, 1) := by decide +kernel
theorem dX2_hash_28 : decode cX2_hash 28 = .ok (.ldc2_w 150, 3) := by decide +kernel
theorem dX2_hash_31 : decode cX2_hash 31 = .ok (.lload_n 1, 1) := by decide +kernel
theorem dX2_hash_32 : decode cX2_hash 32 = .ok (.lmul, 1) := by decide +kernel
theorem dX2_hash_33 : decode cX2_hash 33 = .ok (.aload_n 0, 1) := by decide +kernel
theorem dX2_hash_34 : decode cX2_hash 34 = .ok (.invokevirtual 156, 3) := by decide +kernel
theorem dX2_hash_37 : decode cX2_hash 37 = .ok (.i2l, 1) := by decide +kernel
theorem dX2_hash_38 : decode cX2_hash 38 = .ok (.ladd, 1) := by decide +kernel
theorem dX2_hash_39 : decode cX2_hash 39 = .ok (.lstore_n 1, 1) := by decide +kernel
theorem dX2_hash_40 : decode cX2_hash 40 = .ok (.ldc2_w 150, 3) := by decide +kernel
theorem dX2_hash_43 : decode cX2_hash 43 = .ok (.lload_n 1, 1) := by decide +kernel
theorem dX2_hash_44 : decode cX2_hash 44 = .ok (.lmul, 1) := by decide +kernel
theorem dX2_hash_45 : decode cX2_hash 45 = .ok (.aload_n 0, 1) := by decide +kernel
theorem dX2_hash_46 : decode cX2_hash 46 = .ok (.getfield 18, 3) := by decide +kernel
theorem dX2_hash_49 : decode cX2_hash 49 = .ok (.i2l, 1) := by decide +kernel
theorem dX2_hash_50 : decode cX2_hash 50 = .ok (.ladd, 1) := by decide +kernel
theorem dX2_hash_51 : decode cX2_hash 51 = .ok (.lstore_n 1, 1) := by decide +kernel
theorem dX2_hash_52 : decode cX2_hash 52 = .ok (.iconst 0, 1) := by decide +kernel
theorem dX2_hash_53 : decode cX2_hash 53 = .ok (.istore_n 3, 1) := by decide +kernel
theorem dX2_hash_54 : decode cX2_hash 54 = .ok (.iload_n 3, 1) := by decide +kernel
theorem dX2_hash_55 : decode cX2_hash 55 = .ok (.bipush 6, 2) := by decide +kernel
theorem dX2_hash_57 : decode cX2_hash 57 = .ok (.if_icmp .ge 16, 3) := by decide +kernel
theorem dX2_hash_60 : decode cX2_hash 60 = .ok (.aload_n 0, 1) := by decide +kernel
theorem dX2_hash_61 : decode cX2_hash 61 = .ok (.lload_n 1, 1) := by decide +kernel
theorem dX2_hash_62 : decode cX2_hash 62 = .ok (.iload_n 3, 1) := by decide +kernel
theorem dX2_hash_63 : decode cX2_hash 63 = .ok (.invokevirtual 159, 3) := by decide +kernel
theorem dX2_hash_66 : decode cX2_hash 66 = .ok (.lstore_n 1, 1) := by decide +kernel
theorem dX2_hash_67 : decode cX2_hash 67 = .ok (.iinc 3 1, 3) := by decide +kernel
theorem dX2_hash_70 : decode cX2_hash 70 = .ok (.goto (-16), 3) := by decide +kernel
theorem dX2_hash_73 : decode cX2_hash 73 = .ok (.iconst 0, 1) := by decide +kernel
theorem dX2_hash_74 : decode cX2_hash 74 = .ok (.istore_n 3, 1) := by decide +kernel
theorem dX2_hash_75 : decode cX2_hash 75 = .ok (.iload_n 3, 1) := by decide +kernel
theorem dX2_hash_76 : decode cX2_hash 76 = .ok (.aload_n 0, 1) := by decide +kernel
theorem dX2_hash_77 : decode cX2_hash 77 = .ok (.getfield 9, 3) := by decide +kernel
theorem dX2_hash_80 : decode cX2_hash 80 = .ok (.if_icmp .ge 16, 3) := by decide +kernel
theorem dX2_hash_83 : decode cX2_hash 83 = .ok (.aload_n 0, 1) := by decide +kernel
theorem dX2_hash_84 : decode cX2_hash 84 = .ok (.lload_n 1, 1) := by decide +kernel
theorem dX2_hash_85 : decode cX2_hash 85 = .ok (.iload_n 3, 1) := by decide +kernel
theorem dX2_hash_86 : decode cX2_hash 86 = .ok (.invokevirtual 163, 3) := by decide +kernel
theorem dX2_hash_89 : decode cX2_hash 89 = .ok (.lstore_n 1, 1) := by decide +kernel
theorem dX2_hash_90 : decode cX2_hash 90 = .ok (.iinc 3 1, 3) := by decide +kernel
theorem dX2_hash_93 : decode cX2_hash 93 = .ok (.goto (-18), 3) := by decide +kernel
theorem dX2_hash_96 : decode cX2_hash 96 = .ok (.lload_n 1, 1) := by decide +kernel
theorem dX2_hash_97 : decode cX2_hash 97 = .ok (.lreturn, 1) := by decide +kernel
theorem dX2_hashSite_0 : decode cX2_hashSite 0 = .ok (.ldc2_w 150, 3) := by decide +kernel
theorem dX2_hashSite_3 : decode cX2_hashSite 3 = .ok (.lload_n 1, 1) := by decide +kernel
theorem dX2_hashSite_4 : decode cX2_hashSite 4 = .ok (.lmul, 1) := by decide +kernel
theorem dX2_hashSite_5 : decode cX2_hashSite 5 = .ok (.aload_n 0, 1) := by decide +kernel
theorem dX2_hashSite_6 : decode cX2_hashSite 6 = .ok (.iload_n 3, 1) := by decide +kernel
theorem dX2_hashSite_7 : decode cX2_hashSite 7 = .ok (.invokevirtual 79, 3) := by decide +kernel
theorem dX2_hashSite_10 : decode cX2_hashSite 10 = .ok (.ifCond .eq 7, 3) := by decide +kernel
theorem dX2_hashSite_13 : decode cX2_hashSite 13 = .ok (.iconst 1, 1) := by decide +kernel
theorem dX2_hashSite_14 : decode cX2_hashSite 14 = .ok (.goto 4, 3) := by decide +kernel
theorem dX2_hashSite_17 : decode cX2_hashSite 17 = .ok (.iconst 0, 1) := by decide +kernel
theorem dX2_hashSite_18 : decode cX2_hashSite 18 = .ok (.i2l, 1) := by decide +kernel
theorem dX2_hashSite_19 : decode cX2_hashSite 19 = .ok (.ladd, 1) := by decide +kernel
theorem dX2_hashSite_20 : decode cX2_hashSite 20 = .ok (.lstore 4, 2) := by decide +kernel
theorem dX2_hashSite_22 : decode cX2_hashSite 22 = .ok (.ldc2_w 150, 3) := by decide +kernel
theorem dX2_hashSite_25 : decode cX2_hashSite 25 = .ok (.lload 4, 2) := by decide +kernel
theorem dX2_hashSite_27 : decode cX2_hashSite 27 = .ok (.lmul, 1) := by decide +kernel
theorem dX2_hashSite_28 : decode cX2_hashSite 28 = .ok (.aload_n 0, 1) := by decide +kernel
theorem dX2_hashSite_29 : decode cX2_hashSite 29 = .ok (.iload_n 3, 1) := by decide +kernel
theorem dX2_hashSite_30 : decode cX2_hashSite 30 = .ok (.invokevirtual 166, 3) := by decide +kernel
theorem dX2_hashSite_33 : decode cX2_hashSite 33 = .ok (.i2l, 1) := by decide +kernel
theorem dX2_hashSite_34 : decode cX2_hashSite 34 = .ok (.ladd, 1) := by decide +kernel
theorem dX2_hashSite_35 : decode cX2_hashSite 35 = .ok (.lstore 4, 2) := by decide +kernel
theorem dX2_hashSite_37 : decode cX2_hashSite 37 = .ok (.aload_n 0, 1) := by decide +kernel
theorem dX2_hashSite_38 : decode cX2_hashSite 38 = .ok (.iload_n 3, 1) := by decide +kernel
theorem dX2_hashSite_39 : decode cX2_hashSite 39 = .ok (.invokevirtual 75, 3) := by decide +kernel
theorem dX2_hashSite_42 : decode cX2_hashSite 42 = .ok (.istore 6, 2) := by decide +kernel
theorem dX2_hashSite_44 : decode cX2_hashSite 44 = .ok (.ldc2_w 150, 3) := by decide +kernel
theorem dX2_hashSite_47 : decode cX2_hashSite 47 = .ok (.lload 4, 2) := by decide +kernel
theorem dX2_hashSite_49 : decode cX2_hashSite 49 = .ok (.lmul, 1) := by decide +kernel
theorem dX2_hashSite_50 : decode cX2_hashSite 50 = .ok (.iload 6, 2) := by decide +kernel
theorem dX2_hashSite_52 : decode cX2_hashSite 52 = .ok (.i2l, 1) := by decide +kernel
theorem dX2_hashSite_53 : decode cX2_hashSite 53 = .ok (.ladd, 1) := by decide +kernel
theorem dX2_hashSite_54 : decode cX2_hashSite 54 = .ok (.lstore 4, 2) := by decide +kernel
theorem dX2_hashSite_56 : decode cX2_hashSite 56 = .ok (.iconst 0, 1) := by decide +kernel
theorem dX2_hashSite_57 : decode cX2_hashSite 57 = .ok (.istore 7, 2) := by decide +kernel
theorem dX2_hashSite_59 : decode cX2_hashSite 59 = .ok (.iload 7, 2) := by decide +kernel
theorem dX2_hashSite_61 : decode cX2_hashSite 61 = .ok (.iload 6, 2) := by decide +kernel
theorem dX2_hashSite_63 : decode cX2_hashSite 63 = .ok (.if_icmp .ge 26, 3) := by decide +kernel
theorem dX2_hashSite_66 : decode cX2_hashSite 66 = .ok (.ldc2_w 150, 3) := by decide +kernel
theorem dX2_hashSite_69 : decode cX2_hashSite 69 = .ok (.lload 4, 2) := by decide +kernel
theorem dX2_hashSite_71 : decode cX2_hashSite 71 = .ok (.lmul, 1) := by decide +kernel
theorem dX2_hashSite_72 : decode cX2_hashSite 72 = .ok (.aload_n 0, 1) := by decide +kernel
theorem dX2_hashSite_73 : decode cX2_hashSite 73 = .ok (.iload_n 3, 1) := by decide +kernel
theorem dX2_hashSite_74 : decode cX2_hashSite 74 = .ok (.iload 7, 2) := by decide +kernel
theorem dX2_hashSite_76 : decode cX2_hashSite 76 = .ok (.invokevirtual 169, 3) := by decide +kernel
theorem dX2_hashSite_79 : decode cX2_hashSite 79 = .ok (.i2l, 1) := by decide +kernel
theorem dX2_hashSite_80 : decode cX2_hashSite 80 = .ok (.ladd, 1) := by decide +kernel
theorem dX2_hashSite_81 : decode cX2_hashSite 81 = .ok (.lstore 4, 2) := by decide +kernel
theorem dX2_hashSite_83 : decode cX2_hashSite 83 = .ok (.iinc 7 1, 3) := by decide +kernel
theorem dX2_hashSite_86 : decode cX2_hashSite 86 = .ok (.goto (-27), 3) := by decide +kernel
theorem dX2_hashSite_89 : decode cX2_hashSite 89 = .ok (.lload 4, 2) := by decide +kernel
theorem dX2_hashSite_91 : decode cX2_hashSite 91 = .ok (.lreturn, 1) := by decide +kernel
theorem dX2_hashDeal_0 : decode cX2_hashDeal 0 = .ok (.ldc2_w 150, 3) := by decide +kernel
theorem dX2_hashDeal_3 : decode cX2_hashDeal 3 = .ok (.lload_n 1, 1) := by decide +kernel
theorem dX2_hashDeal_4 : decode cX2_hashDeal 4 = .ok (.lmul, 1) := by decide +kernel
theorem dX2_hashDeal_5 : decode cX2_hashDeal 5 = .ok (.aload_n 0, 1) := by decide +kernel
theorem dX2_hashDeal_6 : decode cX2_hashDeal 6 = .ok (.iload_n 3, 1) := by decide +kernel
theorem dX2_hashDeal_7 : decode cX2_hashDeal 7 = .ok (.invokevirtual 82, 3) := by decide +kernel
theorem dX2_hashDeal_10 : decode cX2_hashDeal 10 = .ok (.i2l, 1) := by decide +kernel
theorem dX2_hashDeal_11 : decode cX2_hashDeal 11 = .ok (.ladd, 1) := by decide +kernel
theorem dX2_hashDeal_12 : decode cX2_hashDeal 12 = .ok (.lstore 4, 2) := by decide +kernel
theorem dX2_hashDeal_14 : decode cX2_hashDeal 14 = .ok (.ldc2_w 150, 3) := by decide +kernel
theorem dX2_hashDeal_17 : decode cX2_hashDeal 17 = .ok (.lload 4, 2) := by decide +kernel
theorem dX2_hashDeal_19 : decode cX2_hashDeal 19 = .ok (.lmul, 1) := by decide +kernel
theorem dX2_hashDeal_20 : decode cX2_hashDeal 20 = .ok (.aload_n 0, 1) := by decide +kernel
theorem dX2_hashDeal_21 : decode cX2_hashDeal 21 = .ok (.iload_n 3, 1) := by decide +kernel
theorem dX2_hashDeal_22 : decode cX2_hashDeal 22 = .ok (.invokevirtual 85, 3) := by decide +kernel
theorem dX2_hashDeal_25 : decode cX2_hashDeal 25 = .ok (.i2l, 1) := by decide +kernel
theorem dX2_hashDeal_26 : decode cX2_hashDeal 26 = .ok (.ladd, 1) := by decide +kernel
theorem dX2_hashDeal_27 : decode cX2_hashDeal 27 = .ok (.lstore 4, 2) := by decide +kernel
theorem dX2_hashDeal_29 : decode cX2_hashDeal 29 = .ok (.iconst 0, 1) := by decide +kernel
theorem dX2_hashDeal_30 : decode cX2_hashDeal 30 = .ok (.istore 6, 2) := by decide +kernel
theorem dX2_hashDeal_32 : decode cX2_hashDeal 32 = .ok (.iload 6, 2) := by decide +kernel
theorem dX2_hashDeal_34 : decode cX2_hashDeal 34 = .ok (.bipush 6, 2) := by decide +kernel
theorem dX2_hashDeal_36 : decode cX2_hashDeal 36 = .ok (.if_icmp .ge 60, 3) := by decide +kernel
theorem dX2_hashDeal_39 : decode cX2_hashDeal 39 = .ok (.ldc2_w 150, 3) := by decide +kernel
theorem dX2_hashDeal_42 : decode cX2_hashDeal 42 = .ok (.lload 4, 2) := by decide +kernel
theorem dX2_hashDeal_44 : decode cX2_hashDeal 44 = .ok (.lmul, 1) := by decide +kernel
theorem dX2_hashDeal_45 : decode cX2_hashDeal 45 = .ok (.aload_n 0, 1) := by decide +kernel
theorem dX2_hashDeal_46 : decode cX2_hashDeal 46 = .ok (.iload_n 3, 1) := by decide +kernel
theorem dX2_hashDeal_47 : decode cX2_hashDeal 47 = .ok (.iload 6, 2) := by decide +kernel
theorem dX2_hashDeal_49 : decode cX2_hashDeal 49 = .ok (.invokevirtual 66, 3) := by decide +kernel
theorem dX2_hashDeal_52 : decode cX2_hashDeal 52 = .ok (.i2l, 1) := by decide +kernel
theorem dX2_hashDeal_53 : decode cX2_hashDeal 53 = .ok (.ladd, 1) := by decide +kernel
theorem dX2_hashDeal_54 : decode cX2_hashDeal 54 = .ok (.lstore 4, 2) := by decide +kernel
theorem dX2_hashDeal_56 : decode cX2_hashDeal 56 = .ok (.ldc2_w 150, 3) := by decide +kernel
theorem dX2_hashDeal_59 : decode cX2_hashDeal 59 = .ok (.lload 4, 2) := by decide +kernel
theorem dX2_hashDeal_61 : decode cX2_hashDeal 61 = .ok (.lmul, 1) := by decide +kernel
theorem dX2_hashDeal_62 : decode cX2_hashDeal 62 = .ok (.aload_n 0, 1) := by decide +kernel
theorem dX2_hashDeal_63 : decode cX2_hashDeal 63 = .ok (.iload_n 3, 1) := by decide +kernel
theorem dX2_hashDeal_64 : decode cX2_hashDeal 64 = .ok (.iload 6, 2) := by decide +kernel
theorem dX2_hashDeal_66 : decode cX2_hashDeal 66 = .ok (.invokevirtual 172, 3) := by decide +kernel
theorem dX2_hashDeal_69 : decode cX2_hashDeal 69 = .ok (.i2l, 1) := by decide +kernel
theorem dX2_hashDeal_70 : decode cX2_hashDeal 70 = .ok (.ladd, 1) := by decide +kernel
theorem dX2_hashDeal_71 : decode cX2_hashDeal 71 = .ok (.lstore 4, 2) := by decide +kernel
theorem dX2_hashDeal_73 : decode cX2_hashDeal 73 = .ok (.ldc2_w 150, 3) := by decide +kernel
theorem dX2_hashDeal_76 : decode cX2_hashDeal 76 = .ok (.lload 4, 2) := by decide +kernel
theorem dX2_hashDeal_78 : decode cX2_hashDeal 78 = .ok (.lmul, 1) := by decide +kernel
theorem dX2_hashDeal_79 : decode cX2_hashDeal 79 = .ok (.aload_n 0, 1) := by decide +kernel
theorem dX2_hashDeal_80 : decode cX2_hashDeal 80 = .ok (.iload_n 3, 1) := by decide +kernel
theorem dX2_hashDeal_81 : decode cX2_hashDeal 81 = .ok (.iload 6, 2) := by decide +kernel
theorem dX2_hashDeal_83 : decode cX2_hashDeal 83 = .ok (.invokevirtual 142, 3) := by decide +kernel
theorem dX2_hashDeal_86 : decode cX2_hashDeal 86 = .ok (.i2l, 1) := by decide +kernel
theorem dX2_hashDeal_87 : decode cX2_hashDeal 87 = .ok (.ladd, 1) := by decide +kernel
theorem dX2_hashDeal_88 : decode cX2_hashDeal 88 = .ok (.lstore 4, 2) := by decide +kernel
theorem dX2_hashDeal_90 : decode cX2_hashDeal 90 = .ok (.iinc 6 1, 3) := by decide +kernel
theorem dX2_hashDeal_93 : decode cX2_hashDeal 93 = .ok (.goto (-61), 3) := by decide +kernel
theorem dX2_hashDeal_96 : decode cX2_hashDeal 96 = .ok (.lload 4, 2) := by decide +kernel
theorem dX2_hashDeal_98 : decode cX2_hashDeal 98 = .ok (.lreturn, 1) := by decide +kernel
