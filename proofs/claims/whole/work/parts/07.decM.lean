/-! Rows that decode each instruction. Laid by program. -/
theorem dM_init_0 : decode cM_init 0 = .ok (.aload_n 0, 1) := by decide +kernel
theorem dM_init_1 : decode cM_init 1 = .ok (.invokespecial 1, 3) := by decide +kernel
theorem dM_init_4 : decode cM_init 4 = .ok (.aload_n 0, 1) := by decide +kernel
theorem dM_init_5 : decode cM_init 5 = .ok (.bipush 16, 2) := by decide +kernel
theorem dM_init_7 : decode cM_init 7 = .ok (.newarray .long, 2) := by decide +kernel
theorem dM_init_9 : decode cM_init 9 = .ok (.putfield 9, 3) := by decide +kernel
theorem dM_init_12 : decode cM_init 12 = .ok (.aload_n 0, 1) := by decide +kernel
theorem dM_init_13 : decode cM_init 13 = .ok (.bipush 16, 2) := by decide +kernel
theorem dM_init_15 : decode cM_init 15 = .ok (.newarray .long, 2) := by decide +kernel
theorem dM_init_17 : decode cM_init 17 = .ok (.putfield 13, 3) := by decide +kernel
theorem dM_init_20 : decode cM_init 20 = .ok (.aload_n 0, 1) := by decide +kernel
theorem dM_init_21 : decode cM_init 21 = .ok (.bipush 16, 2) := by decide +kernel
theorem dM_init_23 : decode cM_init 23 = .ok (.newarray .long, 2) := by decide +kernel
theorem dM_init_25 : decode cM_init 25 = .ok (.putfield 16, 3) := by decide +kernel
theorem dM_init_28 : decode cM_init 28 = .ok (.aload_n 0, 1) := by decide +kernel
theorem dM_init_29 : decode cM_init 29 = .ok (.bipush 16, 2) := by decide +kernel
theorem dM_init_31 : decode cM_init 31 = .ok (.newarray .int, 2) := by decide +kernel
theorem dM_init_33 : decode cM_init 33 = .ok (.putfield 19, 3) := by decide +kernel
theorem dM_init_36 : decode cM_init 36 = .ok (.aload_n 0, 1) := by decide +kernel
theorem dM_init_37 : decode cM_init 37 = .ok (.bipush 16, 2) := by decide +kernel
theorem dM_init_39 : decode cM_init 39 = .ok (.newarray .int, 2) := by decide +kernel
theorem dM_init_41 : decode cM_init 41 = .ok (.putfield 23, 3) := by decide +kernel
theorem dM_init_44 : decode cM_init 44 = .ok (.aload_n 0, 1) := by decide +kernel
theorem dM_init_45 : decode cM_init 45 = .ok (.bipush 16, 2) := by decide +kernel
theorem dM_init_47 : decode cM_init 47 = .ok (.newarray .boolean, 2) := by decide +kernel
theorem dM_init_49 : decode cM_init 49 = .ok (.putfield 26, 3) := by decide +kernel
theorem dM_init_52 : decode cM_init 52 = .ok (.return_, 1) := by decide +kernel
theorem dM_thrown_0 : decode cM_thrown 0 = .ok (.aload_n 0, 1) := by decide +kernel
theorem dM_thrown_1 : decode cM_thrown 1 = .ok (.getfield 30, 3) := by decide +kernel
theorem dM_thrown_4 : decode cM_thrown 4 = .ok (.ireturn, 1) := by decide +kernel
theorem dM_in_0 : decode cM_in 0 = .ok (.lload_n 0, 1) := by decide +kernel
theorem dM_in_1 : decode cM_in 1 = .ok (.lload_n 2, 1) := by decide +kernel
theorem dM_in_2 : decode cM_in 2 = .ok (.lcmp, 1) := by decide +kernel
theorem dM_in_3 : decode cM_in 3 = .ok (.ifCond .lt 14, 3) := by decide +kernel
theorem dM_in_6 : decode cM_in 6 = .ok (.lload_n 0, 1) := by decide +kernel
theorem dM_in_7 : decode cM_in 7 = .ok (.lload 4, 2) := by decide +kernel
theorem dM_in_9 : decode cM_in 9 = .ok (.lcmp, 1) := by decide +kernel
theorem dM_in_10 : decode cM_in 10 = .ok (.ifCond .gt 7, 3) := by decide +kernel
theorem dM_in_13 : decode cM_in 13 = .ok (.iconst 1, 1) := by decide +kernel
theorem dM_in_14 : decode cM_in 14 = .ok (.goto 4, 3) := by decide +kernel
theorem dM_in_17 : decode cM_in 17 = .ok (.iconst 0, 1) := by decide +kernel
theorem dM_in_18 : decode cM_in 18 = .ok (.ireturn, 1) := by decide +kernel
theorem dM_fails_0 : decode cM_fails 0 = .ok (.iload_n 1, 1) := by decide +kernel
theorem dM_fails_1 : decode cM_fails 1 = .ok (.ifCond .eq 15, 3) := by decide +kernel
theorem dM_fails_4 : decode cM_fails 4 = .ok (.aload_n 0, 1) := by decide +kernel
theorem dM_fails_5 : decode cM_fails 5 = .ok (.getfield 30, 3) := by decide +kernel
theorem dM_fails_8 : decode cM_fails 8 = .ok (.ifCond .ne 8, 3) := by decide +kernel
theorem dM_fails_11 : decode cM_fails 11 = .ok (.aload_n 0, 1) := by decide +kernel
theorem dM_fails_12 : decode cM_fails 12 = .ok (.iload_n 2, 1) := by decide +kernel
theorem dM_fails_13 : decode cM_fails 13 = .ok (.putfield 30, 3) := by decide +kernel
theorem dM_fails_16 : decode cM_fails 16 = .ok (.aload_n 0, 1) := by decide +kernel
theorem dM_fails_17 : decode cM_fails 17 = .ok (.getfield 30, 3) := by decide +kernel
theorem dM_fails_20 : decode cM_fails 20 = .ok (.ifCond .eq 7, 3) := by decide +kernel
theorem dM_fails_23 : decode cM_fails 23 = .ok (.iconst 1, 1) := by decide +kernel
theorem dM_fails_24 : decode cM_fails 24 = .ok (.goto 4, 3) := by decide +kernel
theorem dM_fails_27 : decode cM_fails 27 = .ok (.iconst 0, 1) := by decide +kernel
theorem dM_fails_28 : decode cM_fails 28 = .ok (.ireturn, 1) := by decide +kernel
theorem dM_is_0 : decode cM_is 0 = .ok (.iload_n 0, 1) := by decide +kernel
theorem dM_is_1 : decode cM_is 1 = .ok (.i2l, 1) := by decide +kernel
theorem dM_is_2 : decode cM_is 2 = .ok (.lconst 0, 1) := by decide +kernel
theorem dM_is_3 : decode cM_is 3 = .ok (.ldc2_w 34, 3) := by decide +kernel
theorem dM_is_6 : decode cM_is 6 = .ok (.invokestatic 36, 3) := by decide +kernel
theorem dM_is_9 : decode cM_is 9 = .ok (.ireturn, 1) := by decide +kernel
theorem dM_wide_0 : decode cM_wide 0 = .ok (.iload_n 0, 1) := by decide +kernel
theorem dM_wide_1 : decode cM_wide 1 = .ok (.i2l, 1) := by decide +kernel
theorem dM_wide_2 : decode cM_wide 2 = .ok (.ldc2_w 40, 3) := by decide +kernel
theorem dM_wide_5 : decode cM_wide 5 = .ok (.lrem, 1) := by decide +kernel
theorem dM_wide_6 : decode cM_wide 6 = .ok (.ldc2_w 40, 3) := by decide +kernel
theorem dM_wide_9 : decode cM_wide 9 = .ok (.ladd, 1) := by decide +kernel
theorem dM_wide_10 : decode cM_wide 10 = .ok (.ldc2_w 40, 3) := by decide +kernel
theorem dM_wide_13 : decode cM_wide 13 = .ok (.lrem, 1) := by decide +kernel
theorem dM_wide_14 : decode cM_wide 14 = .ok (.lreturn, 1) := by decide +kernel
theorem dM_give_0 : decode cM_give 0 = .ok (.aload_n 0, 1) := by decide +kernel
theorem dM_give_1 : decode cM_give 1 = .ok (.getfield 9, 3) := by decide +kernel
theorem dM_give_4 : decode cM_give 4 = .ok (.iload_n 1, 1) := by decide +kernel
theorem dM_give_5 : decode cM_give 5 = .ok (.lload_n 2, 1) := by decide +kernel
theorem dM_give_6 : decode cM_give 6 = .ok (.lastore, 1) := by decide +kernel
theorem dM_give_7 : decode cM_give 7 = .ok (.aload_n 0, 1) := by decide +kernel
theorem dM_give_8 : decode cM_give 8 = .ok (.getfield 13, 3) := by decide +kernel
theorem dM_give_11 : decode cM_give 11 = .ok (.iload_n 1, 1) := by decide +kernel
theorem dM_give_12 : decode cM_give 12 = .ok (.lload 4, 2) := by decide +kernel
theorem dM_give_14 : decode cM_give 14 = .ok (.lastore, 1) := by decide +kernel
theorem dM_give_15 : decode cM_give 15 = .ok (.aload_n 0, 1) := by decide +kernel
theorem dM_give_16 : decode cM_give 16 = .ok (.getfield 16, 3) := by decide +kernel
theorem dM_give_19 : decode cM_give 19 = .ok (.iload_n 1, 1) := by decide +kernel
theorem dM_give_20 : decode cM_give 20 = .ok (.lload 6, 2) := by decide +kernel
theorem dM_give_22 : decode cM_give 22 = .ok (.lastore, 1) := by decide +kernel
theorem dM_give_23 : decode cM_give 23 = .ok (.aload_n 0, 1) := by decide +kernel
theorem dM_give_24 : decode cM_give 24 = .ok (.getfield 19, 3) := by decide +kernel
theorem dM_give_27 : decode cM_give 27 = .ok (.iload_n 1, 1) := by decide +kernel
theorem dM_give_28 : decode cM_give 28 = .ok (.iload 8, 2) := by decide +kernel
theorem dM_give_30 : decode cM_give 30 = .ok (.iastore, 1) := by decide +kernel
theorem dM_give_31 : decode cM_give 31 = .ok (.aload_n 0, 1) := by decide +kernel
theorem dM_give_32 : decode cM_give 32 = .ok (.getfield 23, 3) := by decide +kernel
theorem dM_give_35 : decode cM_give 35 = .ok (.iload_n 1, 1) := by decide +kernel
theorem dM_give_36 : decode cM_give 36 = .ok (.iload 9, 2) := by decide +kernel
theorem dM_give_38 : decode cM_give 38 = .ok (.iastore, 1) := by decide +kernel
theorem dM_give_39 : decode cM_give 39 = .ok (.aload_n 0, 1) := by decide +kernel
theorem dM_give_40 : decode cM_give 40 = .ok (.getfield 26, 3) := by decide +kernel
theorem dM_give_43 : decode cM_give 43 = .ok (.iload_n 1, 1) := by decide +kernel
theorem dM_give_44 : decode cM_give 44 = .ok (.iload 10, 2) := by decide +kernel
theorem dM_give_46 : decode cM_give 46 = .ok (.bastore, 1) := by decide +kernel
theorem dM_give_47 : decode cM_give 47 = .ok (.return_, 1) := by decide +kernel
theorem dM_root_0 : decode cM_root 0 = .ok (.aload_n 0, 1) := by decide +kernel
theorem dM_root_1 : decode cM_root 1 = .ok (.iconst 0, 1) := by decide +kernel
theorem dM_root_2 : decode cM_root 2 = .ok (.putfield 30, 3) := by decide +kernel
theorem dM_root_5 : decode cM_root 5 = .ok (.aload_n 0, 1) := by decide +kernel
theorem dM_root_6 : decode cM_root 6 = .ok (.iload_n 2, 1) := by decide +kernel
theorem dM_root_7 : decode cM_root 7 = .ok (.invokestatic 42, 3) := by decide +kernel
theorem dM_root_10 : decode cM_root 10 = .ok (.iload_n 3, 1) := by decide +kernel
theorem dM_root_11 : decode cM_root 11 = .ok (.invokestatic 42, 3) := by decide +kernel
theorem dM_root_14 : decode cM_root 14 = .ok (.lcmp, 1) := by decide +kernel
theorem dM_root_15 : decode cM_root 15 = .ok (.ifCond .gt 16, 3) := by decide +kernel
theorem dM_root_18 : decode cM_root 18 = .ok (.iload 4, 2) := by decide +kernel
theorem dM_root_20 : decode cM_root 20 = .ok (.i2l, 1) := by decide +kernel
theorem dM_root_21 : decode cM_root 21 = .ok (.lconst 0, 1) := by decide +kernel
theorem dM_root_22 : decode cM_root 22 = .ok (.ldc2_w 46, 3) := by decide +kernel
theorem dM_root_25 : decode cM_root 25 = .ok (.invokestatic 36, 3) := by decide +kernel
theorem dM_root_28 : decode cM_root 28 = .ok (.ifCond .ne 7, 3) := by decide +kernel
theorem dM_root_31 : decode cM_root 31 = .ok (.iconst 1, 1) := by decide +kernel
theorem dM_root_32 : decode cM_root 32 = .ok (.goto 4, 3) := by decide +kernel
theorem dM_root_35 : decode cM_root 35 = .ok (.iconst 0, 1) := by decide +kernel
theorem dM_root_36 : decode cM_root 36 = .ok (.iconst 1, 1) := by decide +kernel
theorem dM_root_37 : decode cM_root 37 = .ok (.invokevirtual 48, 3) := by decide +kernel
theorem dM_root_40 : decode cM_root 40 = .ok (.ifCond .ne 23, 3) := by decide +kernel
theorem dM_root_43 : decode cM_root 43 = .ok (.aload_n 0, 1) := by decide +kernel
theorem dM_root_44 : decode cM_root 44 = .ok (.iload_n 1, 1) := by decide +kernel
theorem dM_root_45 : decode cM_root 45 = .ok (.invokestatic 52, 3) := by decide +kernel
theorem dM_root_48 : decode cM_root 48 = .ok (.ifCond .ne 7, 3) := by decide +kernel
theorem dM_root_51 : decode cM_root 51 = .ok (.iconst 1, 1) := by decide +kernel
theorem dM_root_52 : decode cM_root 52 = .ok (.goto 4, 3) := by decide +kernel
theorem dM_root_55 : decode cM_root 55 = .ok (.iconst 0, 1) := by decide +kernel
theorem dM_root_56 : decode cM_root 56 = .ok (.iconst 2, 1) := by decide +kernel
theorem dM_root_57 : decode cM_root 57 = .ok (.invokevirtual 48, 3) := by decide +kernel
theorem dM_root_60 : decode cM_root 60 = .ok (.ifCond .eq 4, 3) := by decide +kernel
theorem dM_root_63 : decode cM_root 63 = .ok (.return_, 1) := by decide +kernel
theorem dM_root_64 : decode cM_root 64 = .ok (.aload_n 0, 1) := by decide +kernel
theorem dM_root_65 : decode cM_root 65 = .ok (.iload_n 1, 1) := by decide +kernel
theorem dM_root_66 : decode cM_root 66 = .ok (.iload_n 2, 1) := by decide +kernel
theorem dM_root_67 : decode cM_root 67 = .ok (.invokestatic 42, 3) := by decide +kernel
theorem dM_root_70 : decode cM_root 70 = .ok (.iload_n 2, 1) := by decide +kernel
theorem dM_root_71 : decode cM_root 71 = .ok (.invokestatic 42, 3) := by decide +kernel
theorem dM_root_74 : decode cM_root 74 = .ok (.iload_n 3, 1) := by decide +kernel
theorem dM_root_75 : decode cM_root 75 = .ok (.invokestatic 42, 3) := by decide +kernel
theorem dM_root_78 : decode cM_root 78 = .ok (.iload 4, 2) := by decide +kernel
theorem dM_root_80 : decode cM_root 80 = .ok (.iconst 0, 1) := by decide +kernel
theorem dM_root_81 : decode cM_root 81 = .ok (.iconst 1, 1) := by decide +kernel
theorem dM_root_82 : decode cM_root 82 = .ok (.invokevirtual 56, 3) := by decide +kernel
theorem dM_root_85 : decode cM_root 85 = .ok (.return_, 1) := by decide +kernel
theorem dM_number_0 : decode cM_number 0 = .ok (.aload_n 0, 1) := by decide +kernel
theorem dM_number_1 : decode cM_number 1 = .ok (.iconst 0, 1) := by decide +kernel
theorem dM_number_2 : decode cM_number 2 = .ok (.putfield 30, 3) := by decide +kernel
theorem dM_number_5 : decode cM_number 5 = .ok (.aload_n 0, 1) := by decide +kernel
theorem dM_number_6 : decode cM_number 6 = .ok (.iload_n 1, 1) := by decide +kernel
theorem dM_number_7 : decode cM_number 7 = .ok (.invokestatic 52, 3) := by decide +kernel
theorem dM_number_10 : decode cM_number 10 = .ok (.ifCond .ne 7, 3) := by decide +kernel
theorem dM_number_13 : decode cM_number 13 = .ok (.iconst 1, 1) := by decide +kernel
theorem dM_number_14 : decode cM_number 14 = .ok (.goto 4, 3) := by decide +kernel
theorem dM_number_17 : decode cM_number 17 = .ok (.iconst 0, 1) := by decide +kernel
theorem dM_number_18 : decode cM_number 18 = .ok (.iconst 1, 1) := by decide +kernel
theorem dM_number_19 : decode cM_number 19 = .ok (.invokevirtual 48, 3) := by decide +kernel
theorem dM_number_22 : decode cM_number 22 = .ok (.ifCond .eq 4, 3) := by decide +kernel
theorem dM_number_25 : decode cM_number 25 = .ok (.return_, 1) := by decide +kernel
theorem dM_number_26 : decode cM_number 26 = .ok (.aload_n 0, 1) := by decide +kernel
theorem dM_number_27 : decode cM_number 27 = .ok (.iload_n 1, 1) := by decide +kernel
theorem dM_number_28 : decode cM_number 28 = .ok (.iload_n 2, 1) := by decide +kernel
theorem dM_number_29 : decode cM_number 29 = .ok (.invokestatic 42, 3) := by decide +kernel
theorem dM_number_32 : decode cM_number 32 = .ok (.lconst 0, 1) := by decide +kernel
theorem dM_number_33 : decode cM_number 33 = .ok (.lconst 0, 1) := by decide +kernel
theorem dM_number_34 : decode cM_number 34 = .ok (.iconst 0, 1) := by decide +kernel
theorem dM_number_35 : decode cM_number 35 = .ok (.iconst 0, 1) := by decide +kernel
theorem dM_number_36 : decode cM_number 36 = .ok (.iconst 0, 1) := by decide +kernel
theorem dM_number_37 : decode cM_number 37 = .ok (.invokevirtual 56, 3) := by decide +kernel
theorem dM_number_40 : decode cM_number 40 = .ok (.return_, 1) := by decide +kernel
theorem dM_isSealed_0 : decode cM_isSealed 0 = .ok (.aload_n 0, 1) := by decide +kernel
theorem dM_isSealed_1 : decode cM_isSealed 1 = .ok (.getfield 23, 3) := by decide +kernel
theorem dM_isSealed_4 : decode cM_isSealed 4 = .ok (.iload_n 1, 1) := by decide +kernel
theorem dM_isSealed_5 : decode cM_isSealed 5 = .ok (.iaload, 1) := by decide +kernel
theorem dM_isSealed_6 : decode cM_isSealed 6 = .ok (.ifCond .eq 7, 3) := by decide +kernel
theorem dM_isSealed_9 : decode cM_isSealed 9 = .ok (.iconst 1, 1) := by decide +kernel
theorem dM_isSealed_10 : decode cM_isSealed 10 = .ok (.goto 4, 3) := by decide +kernel
theorem dM_isSealed_13 : decode cM_isSealed 13 = .ok (.iconst 0, 1) := by decide +kernel
theorem dM_isSealed_14 : decode cM_isSealed 14 = .ok (.ireturn, 1) := by decide +kernel
theorem dM_move_0 : decode cM_move 0 = .ok (.aload_n 0, 1) := by decide +kernel
theorem dM_move_1 : decode cM_move 1 = .ok (.iconst 0, 1) := by decide +kernel
theorem dM_move_2 : decode cM_move 2 = .ok (.putfield 30, 3) := by decide +kernel
theorem dM_move_5 : decode cM_move 5 = .ok (.aload_n 0, 1) := by decide +kernel
theorem dM_move_6 : decode cM_move 6 = .ok (.iload_n 1, 1) := by decide +kernel
theorem dM_move_7 : decode cM_move 7 = .ok (.invokestatic 52, 3) := by decide +kernel
theorem dM_move_10 : decode cM_move 10 = .ok (.ifCond .eq 10, 3) := by decide +kernel
theorem dM_move_13 : decode cM_move 13 = .ok (.iload_n 2, 1) := by decide +kernel
theorem dM_move_14 : decode cM_move 14 = .ok (.invokestatic 52, 3) := by decide +kernel
theorem dM_move_17 : decode cM_move 17 = .ok (.ifCond .ne 7, 3) := by decide +kernel
theorem dM_move_20 : decode cM_move 20 = .ok (.iconst 1, 1) := by decide +kernel
theorem dM_move_21 : decode cM_move 21 = .ok (.goto 4, 3) := by decide +kernel
theorem dM_move_24 : decode cM_move 24 = .ok (.iconst 0, 1) := by decide +kernel
theorem dM_move_25 : decode cM_move 25 = .ok (.iconst 1, 1) := by decide +kernel
theorem dM_move_26 : decode cM_move 26 = .ok (.invokevirtual 48, 3) := by decide +kernel
theorem dM_move_29 : decode cM_move 29 = .ok (.ifCond .eq 4, 3) := by decide +kernel
theorem dM_move_32 : decode cM_move 32 = .ok (.return_, 1) := by decide +kernel
theorem dM_move_33 : decode cM_move 33 = .ok (.aload_n 0, 1) := by decide +kernel
theorem dM_move_34 : decode cM_move 34 = .ok (.iload_n 1, 1) := by decide +kernel
theorem dM_move_35 : decode cM_move 35 = .ok (.aload_n 0, 1) := by decide +kernel
theorem dM_move_36 : decode cM_move 36 = .ok (.getfield 9, 3) := by decide +kernel
theorem dM_move_39 : decode cM_move 39 = .ok (.iload_n 2, 1) := by decide +kernel
theorem dM_move_40 : decode cM_move 40 = .ok (.laload, 1) := by decide +kernel
theorem dM_move_41 : decode cM_move 41 = .ok (.iload_n 3, 1) := by decide +kernel
theorem dM_move_42 : decode cM_move 42 = .ok (.invokestatic 42, 3) := by decide +kernel
theorem dM_move_45 : decode cM_move 45 = .ok (.ladd, 1) := by decide +kernel
theorem dM_move_46 : decode cM_move 46 = .ok (.ldc2_w 40, 3) := by decide +kernel
theorem dM_move_49 : decode cM_move 49 = .ok (.lrem, 1) := by decide +kernel
theorem dM_move_50 : decode cM_move 50 = .ok (.aload_n 0, 1) := by decide +kernel
theorem dM_move_51 : decode cM_move 51 = .ok (.getfield 13, 3) := by decide +kernel
theorem dM_move_54 : decode cM_move 54 = .ok (.iload_n 2, 1) := by decide +kernel
theorem dM_move_55 : decode cM_move 55 = .ok (.laload, 1) := by decide +kernel
theorem dM_move_56 : decode cM_move 56 = .ok (.aload_n 0, 1) := by decide +kernel
theorem dM_move_57 : decode cM_move 57 = .ok (.getfield 16, 3) := by decide +kernel
theorem dM_move_60 : decode cM_move 60 = .ok (.iload_n 2, 1) := by decide +kernel
theorem dM_move_61 : decode cM_move 61 = .ok (.laload, 1) := by decide +kernel
theorem dM_move_62 : decode cM_move 62 = .ok (.aload_n 0, 1) := by decide +kernel
theorem dM_move_63 : decode cM_move 63 = .ok (.getfield 19, 3) := by decide +kernel
theorem dM_move_66 : decode cM_move 66 = .ok (.iload_n 2, 1) := by decide +kernel
theorem dM_move_67 : decode cM_move 67 = .ok (.iaload, 1) := by decide +kernel
theorem dM_move_68 : decode cM_move 68 = .ok (.aload_n 0, 1) := by decide +kernel
theorem dM_move_69 : decode cM_move 69 = .ok (.getfield 23, 3) := by decide +kernel
theorem dM_move_72 : decode cM_move 72 = .ok (.iload_n 2, 1) := by decide +kernel
theorem dM_move_73 : decode cM_move 73 = .ok (.iaload, 1) := by decide +kernel
theorem dM_move_74 : decode cM_move 74 = .ok (.aload_n 0, 1) := by decide +kernel
theorem dM_move_75 : decode cM_move 75 = .ok (.getfield 26, 3) := by decide +kernel
theorem dM_move_78 : decode cM_move 78 = .ok (.iload_n 2, 1) := by decide +kernel
theorem dM_move_79 : decode cM_move 79 = .ok (.baload, 1) := by decide +kernel
theorem dM_move_80 : decode cM_move 80 = .ok (.ifCond .eq 19, 3) := by decide +kernel
theorem dM_move_83 : decode cM_move 83 = .ok (.aload_n 0, 1) := by decide +kernel
theorem dM_move_84 : decode cM_move 84 = .ok (.iload_n 2, 1) := by decide +kernel
theorem dM_move_85 : decode cM_move 85 = .ok (.invokevirtual 60, 3) := by decide +kernel
theorem dM_move_88 : decode cM_move 88 = .ok (.ifCond .eq 7, 3) := by decide +kernel
theorem dM_move_91 : decode cM_move 91 = .ok (.iload_n 3, 1) := by decide +kernel
theorem dM_move_92 : decode cM_move 92 = .ok (.ifCond .ne 7, 3) := by decide +kernel
theorem dM_move_95 : decode cM_move 95 = .ok (.iconst 1, 1) := by decide +kernel
theorem dM_move_96 : decode cM_move 96 = .ok (.goto 4, 3) := by decide +kernel
theorem dM_move_99 : decode cM_move 99 = .ok (.iconst 0, 1) := by decide +kernel
theorem dM_move_100 : decode cM_move 100 = .ok (.invokevirtual 56, 3) := by decide +kernel
theorem dM_move_103 : decode cM_move 103 = .ok (.return_, 1) := by decide +kernel
theorem dM_narrow_0 : decode cM_narrow 0 = .ok (.aload_n 0, 1) := by decide +kernel
theorem dM_narrow_1 : decode cM_narrow 1 = .ok (.iconst 0, 1) := by decide +kernel
theorem dM_narrow_2 : decode cM_narrow 2 = .ok (.putfield 30, 3) := by decide +kernel
theorem dM_narrow_5 : decode cM_narrow 5 = .ok (.aload_n 0, 1) := by decide +kernel
theorem dM_narrow_6 : decode cM_narrow 6 = .ok (.iload_n 1, 1) := by decide +kernel
theorem dM_narrow_7 : decode cM_narrow 7 = .ok (.invokestatic 52, 3) := by decide +kernel
theorem dM_narrow_10 : decode cM_narrow 10 = .ok (.ifCond .eq 10, 3) := by decide +kernel
theorem dM_narrow_13 : decode cM_narrow 13 = .ok (.iload_n 2, 1) := by decide +kernel
theorem dM_narrow_14 : decode cM_narrow 14 = .ok (.invokestatic 52, 3) := by decide +kernel
theorem dM_narrow_17 : decode cM_narrow 17 = .ok (.ifCond .ne 7, 3) := by decide +kernel
theorem dM_narrow_20 : decode cM_narrow 20 = .ok (.iconst 1, 1) := by decide +kernel
theorem dM_narrow_21 : decode cM_narrow 21 = .ok (.goto 4, 3) := by decide +kernel
theorem dM_narrow_24 : decode cM_narrow 24 = .ok (.iconst 0, 1) := by decide +kernel
theorem dM_narrow_25 : decode cM_narrow 25 = .ok (.iconst 1, 1) := by decide +kernel
theorem dM_narrow_26 : decode cM_narrow 26 = .ok (.invokevirtual 48, 3) := by decide +kernel
theorem dM_narrow_29 : decode cM_narrow 29 = .ok (.ifCond .eq 5, 3) := by decide +kernel
theorem dM_narrow_32 : decode cM_narrow 32 = .ok (.iconst 0, 1) := by decide +kernel
theorem dM_narrow_33 : decode cM_narrow 33 = .ok (.ireturn, 1) := by decide +kernel
theorem dM_narrow_34 : decode cM_narrow 34 = .ok (.aload_n 0, 1) := by decide +kernel
theorem dM_narrow_35 : decode cM_narrow 35 = .ok (.getfield 9, 3) := by decide +kernel
theorem dM_narrow_38 : decode cM_narrow 38 = .ok (.iload_n 2, 1) := by decide +kernel
theorem dM_narrow_39 : decode cM_narrow 39 = .ok (.laload, 1) := by decide +kernel
theorem dM_narrow_40 : decode cM_narrow 40 = .ok (.lstore 4, 2) := by decide +kernel
theorem dM_narrow_42 : decode cM_narrow 42 = .ok (.lload 4, 2) := by decide +kernel
theorem dM_narrow_44 : decode cM_narrow 44 = .ok (.iload_n 3, 1) := by decide +kernel
theorem dM_narrow_45 : decode cM_narrow 45 = .ok (.invokestatic 42, 3) := by decide +kernel
theorem dM_narrow_48 : decode cM_narrow 48 = .ok (.ladd, 1) := by decide +kernel
theorem dM_narrow_49 : decode cM_narrow 49 = .ok (.lstore 6, 2) := by decide +kernel
theorem dM_narrow_51 : decode cM_narrow 51 = .ok (.aload_n 0, 1) := by decide +kernel
theorem dM_narrow_52 : decode cM_narrow 52 = .ok (.iload_n 1, 1) := by decide +kernel
theorem dM_narrow_53 : decode cM_narrow 53 = .ok (.lload 4, 2) := by decide +kernel
theorem dM_narrow_55 : decode cM_narrow 55 = .ok (.lload 4, 2) := by decide +kernel
theorem dM_narrow_57 : decode cM_narrow 57 = .ok (.lload 6, 2) := by decide +kernel
theorem dM_narrow_59 : decode cM_narrow 59 = .ok (.ldc2_w 40, 3) := by decide +kernel
theorem dM_narrow_62 : decode cM_narrow 62 = .ok (.lrem, 1) := by decide +kernel
theorem dM_narrow_63 : decode cM_narrow 63 = .ok (.aload_n 0, 1) := by decide +kernel
theorem dM_narrow_64 : decode cM_narrow 64 = .ok (.getfield 19, 3) := by decide +kernel
theorem dM_narrow_67 : decode cM_narrow 67 = .ok (.iload_n 2, 1) := by decide +kernel
theorem dM_narrow_68 : decode cM_narrow 68 = .ok (.iaload, 1) := by decide +kernel
theorem dM_narrow_69 : decode cM_narrow 69 = .ok (.aload_n 0, 1) := by decide +kernel
theorem dM_narrow_70 : decode cM_narrow 70 = .ok (.getfield 23, 3) := by decide +kernel
theorem dM_narrow_73 : decode cM_narrow 73 = .ok (.iload_n 2, 1) := by decide +kernel
theorem dM_narrow_74 : decode cM_narrow 74 = .ok (.iaload, 1) := by decide +kernel
theorem dM_narrow_75 : decode cM_narrow 75 = .ok (.aload_n 0, 1) := by decide +kernel
theorem dM_narrow_76 : decode cM_narrow 76 = .ok (.getfield 26, 3) := by decide +kernel
theorem dM_narrow_79 : decode cM_narrow 79 = .ok (.iload_n 2, 1) := by decide +kernel
theorem dM_narrow_80 : decode cM_narrow 80 = .ok (.baload, 1) := by decide +kernel
theorem dM_narrow_81 : decode cM_narrow 81 = .ok (.ifCond .eq 51, 3) := by decide +kernel
theorem dM_narrow_84 : decode cM_narrow 84 = .ok (.aload_n 0, 1) := by decide +kernel
theorem dM_narrow_85 : decode cM_narrow 85 = .ok (.iload_n 2, 1) := by decide +kernel
theorem dM_narrow_86 : decode cM_narrow 86 = .ok (.invokevirtual 60, 3) := by decide +kernel
theorem dM_narrow_89 : decode cM_narrow 89 = .ok (.ifCond .ne 43, 3) := by decide +kernel
theorem dM_narrow_92 : decode cM_narrow 92 = .ok (.lload 4, 2) := by decide +kernel
theorem dM_narrow_94 : decode cM_narrow 94 = .ok (.aload_n 0, 1) := by decide +kernel
theorem dM_narrow_95 : decode cM_narrow 95 = .ok (.getfield 13, 3) := by decide +kernel
theorem dM_narrow_98 : decode cM_narrow 98 = .ok (.iload_n 2, 1) := by decide +kernel
theorem dM_narrow_99 : decode cM_narrow 99 = .ok (.laload, 1) := by decide +kernel
theorem dM_narrow_100 : decode cM_narrow 100 = .ok (.lcmp, 1) := by decide +kernel
theorem dM_narrow_101 : decode cM_narrow 101 = .ok (.ifCond .lt 31, 3) := by decide +kernel
theorem dM_narrow_104 : decode cM_narrow 104 = .ok (.lload 4, 2) := by decide +kernel
theorem dM_narrow_106 : decode cM_narrow 106 = .ok (.aload_n 0, 1) := by decide +kernel
theorem dM_narrow_107 : decode cM_narrow 107 = .ok (.getfield 16, 3) := by decide +kernel
theorem dM_narrow_110 : decode cM_narrow 110 = .ok (.iload_n 2, 1) := by decide +kernel
theorem dM_narrow_111 : decode cM_narrow 111 = .ok (.laload, 1) := by decide +kernel
theorem dM_narrow_112 : decode cM_narrow 112 = .ok (.lcmp, 1) := by decide +kernel
theorem dM_narrow_113 : decode cM_narrow 113 = .ok (.ifCond .gt 19, 3) := by decide +kernel
theorem dM_narrow_116 : decode cM_narrow 116 = .ok (.lload 6, 2) := by decide +kernel
theorem dM_narrow_118 : decode cM_narrow 118 = .ok (.aload_n 0, 1) := by decide +kernel
theorem dM_narrow_119 : decode cM_narrow 119 = .ok (.getfield 16, 3) := by decide +kernel
theorem dM_narrow_122 : decode cM_narrow 122 = .ok (.iload_n 2, 1) := by decide +kernel
theorem dM_narrow_123 : decode cM_narrow 123 = .ok (.laload, 1) := by decide +kernel
theorem dM_narrow_124 : decode cM_narrow 124 = .ok (.lcmp, 1) := by decide +kernel
theorem dM_narrow_125 : decode cM_narrow 125 = .ok (.ifCond .gt 7, 3) := by decide +kernel
theorem dM_narrow_128 : decode cM_narrow 128 = .ok (.iconst 1, 1) := by decide +kernel
theorem dM_narrow_129 : decode cM_narrow 129 = .ok (.goto 4, 3) := by decide +kernel
theorem dM_narrow_132 : decode cM_narrow 132 = .ok (.iconst 0, 1) := by decide +kernel
theorem dM_narrow_133 : decode cM_narrow 133 = .ok (.invokevirtual 56, 3) := by decide +kernel
theorem dM_narrow_136 : decode cM_narrow 136 = .ok (.aload_n 0, 1) := by decide +kernel
theorem dM_narrow_137 : decode cM_narrow 137 = .ok (.getfield 26, 3) := by decide +kernel
theorem dM_narrow_140 : decode cM_narrow 140 = .ok (.iload_n 1, 1) := by decide +kernel
theorem dM_narrow_141 : decode cM_narrow 141 = .ok (.baload, 1) := by decide +kernel
theorem dM_narrow_142 : decode cM_narrow 142 = .ok (.ireturn, 1) := by decide +kernel
theorem dM_restrict_0 : decode cM_restrict 0 = .ok (.aload_n 0, 1) := by decide +kernel
theorem dM_restrict_1 : decode cM_restrict 1 = .ok (.iconst 0, 1) := by decide +kernel
theorem dM_restrict_2 : decode cM_restrict 2 = .ok (.putfield 30, 3) := by decide +kernel
theorem dM_restrict_5 : decode cM_restrict 5 = .ok (.aload_n 0, 1) := by decide +kernel
theorem dM_restrict_6 : decode cM_restrict 6 = .ok (.iload_n 1, 1) := by decide +kernel
theorem dM_restrict_7 : decode cM_restrict 7 = .ok (.invokestatic 52, 3) := by decide +kernel
theorem dM_restrict_10 : decode cM_restrict 10 = .ok (.ifCond .eq 10, 3) := by decide +kernel
theorem dM_restrict_13 : decode cM_restrict 13 = .ok (.iload_n 2, 1) := by decide +kernel
theorem dM_restrict_14 : decode cM_restrict 14 = .ok (.invokestatic 52, 3) := by decide +kernel
theorem dM_restrict_17 : decode cM_restrict 17 = .ok (.ifCond .ne 7, 3) := by decide +kernel
theorem dM_restrict_20 : decode cM_restrict 20 = .ok (.iconst 1, 1) := by decide +kernel
theorem dM_restrict_21 : decode cM_restrict 21 = .ok (.goto 4, 3) := by decide +kernel
theorem dM_restrict_24 : decode cM_restrict 24 = .ok (.iconst 0, 1) := by decide +kernel
theorem dM_restrict_25 : decode cM_restrict 25 = .ok (.iconst 1, 1) := by decide +kernel
theorem dM_restrict_26 : decode cM_restrict 26 = .ok (.invokevirtual 48, 3) := by decide +kernel
theorem dM_restrict_29 : decode cM_restrict 29 = .ok (.ifCond .eq 5, 3) := by decide +kernel
theorem dM_restrict_32 : decode cM_restrict 32 = .ok (.iconst 0, 1) := by decide +kernel
theorem dM_restrict_33 : decode cM_restrict 33 = .ok (.ireturn, 1) := by decide +kernel
theorem dM_restrict_34 : decode cM_restrict 34 = .ok (.iconst 0, 1) := by decide +kernel
theorem dM_restrict_35 : decode cM_restrict 35 = .ok (.istore 4, 2) := by decide +kernel
theorem dM_restrict_37 : decode cM_restrict 37 = .ok (.iconst 0, 1) := by decide +kernel
theorem dM_restrict_38 : decode cM_restrict 38 = .ok (.istore 5, 2) := by decide +kernel
theorem dM_restrict_40 : decode cM_restrict 40 = .ok (.iload 5, 2) := by decide +kernel
theorem dM_restrict_42 : decode cM_restrict 42 = .ok (.bipush 8, 2) := by decide +kernel
theorem dM_restrict_44 : decode cM_restrict 44 = .ok (.if_icmp .ge 43, 3) := by decide +kernel
theorem dM_restrict_47 : decode cM_restrict 47 = .ok (.aload_n 0, 1) := by decide +kernel
theorem dM_restrict_48 : decode cM_restrict 48 = .ok (.getfield 19, 3) := by decide +kernel
theorem dM_restrict_51 : decode cM_restrict 51 = .ok (.iload_n 2, 1) := by decide +kernel
theorem dM_restrict_52 : decode cM_restrict 52 = .ok (.iaload, 1) := by decide +kernel
theorem dM_restrict_53 : decode cM_restrict 53 = .ok (.iload 5, 2) := by decide +kernel
theorem dM_restrict_55 : decode cM_restrict 55 = .ok (.ishr, 1) := by decide +kernel
theorem dM_restrict_56 : decode cM_restrict 56 = .ok (.iconst 1, 1) := by decide +kernel
theorem dM_restrict_57 : decode cM_restrict 57 = .ok (.iand, 1) := by decide +kernel
theorem dM_restrict_58 : decode cM_restrict 58 = .ok (.iconst 1, 1) := by decide +kernel
theorem dM_restrict_59 : decode cM_restrict 59 = .ok (.if_icmp .ne 22, 3) := by decide +kernel
theorem dM_restrict_62 : decode cM_restrict 62 = .ok (.iload_n 3, 1) := by decide +kernel
theorem dM_restrict_63 : decode cM_restrict 63 = .ok (.iload 5, 2) := by decide +kernel
theorem dM_restrict_65 : decode cM_restrict 65 = .ok (.ishr, 1) := by decide +kernel
theorem dM_restrict_66 : decode cM_restrict 66 = .ok (.iconst 1, 1) := by decide +kernel
theorem dM_restrict_67 : decode cM_restrict 67 = .ok (.iand, 1) := by decide +kernel
theorem dM_restrict_68 : decode cM_restrict 68 = .ok (.iconst 1, 1) := by decide +kernel
theorem dM_restrict_69 : decode cM_restrict 69 = .ok (.if_icmp .ne 12, 3) := by decide +kernel
theorem dM_restrict_72 : decode cM_restrict 72 = .ok (.iload 4, 2) := by decide +kernel
theorem dM_restrict_74 : decode cM_restrict 74 = .ok (.iconst 1, 1) := by decide +kernel
theorem dM_restrict_75 : decode cM_restrict 75 = .ok (.iload 5, 2) := by decide +kernel
theorem dM_restrict_77 : decode cM_restrict 77 = .ok (.ishl, 1) := by decide +kernel
theorem dM_restrict_78 : decode cM_restrict 78 = .ok (.iadd, 1) := by decide +kernel
theorem dM_restrict_79 : decode cM_restrict 79 = .ok (.istore 4, 2) := by decide +kernel
theorem dM_restrict_81 : decode cM_restrict 81 = .ok (.iinc 5 1, 3) := by decide +kernel
theorem dM_restrict_84 : decode cM_restrict 84 = .ok (.goto (-44), 3) := by decide +kernel
theorem dM_restrict_87 : decode cM_restrict 87 = .ok (.aload_n 0, 1) := by decide +kernel
theorem dM_restrict_88 : decode cM_restrict 88 = .ok (.iload_n 1, 1) := by decide +kernel
theorem dM_restrict_89 : decode cM_restrict 89 = .ok (.aload_n 0, 1) := by decide +kernel
theorem dM_restrict_90 : decode cM_restrict 90 = .ok (.getfield 9, 3) := by decide +kernel
theorem dM_restrict_93 : decode cM_restrict 93 = .ok (.iload_n 2, 1) := by decide +kernel
theorem dM_restrict_94 : decode cM_restrict 94 = .ok (.laload, 1) := by decide +kernel
theorem dM_restrict_95 : decode cM_restrict 95 = .ok (.aload_n 0, 1) := by decide +kernel
theorem dM_restrict_96 : decode cM_restrict 96 = .ok (.getfield 13, 3) := by decide +kernel
theorem dM_restrict_99 : decode cM_restrict 99 = .ok (.iload_n 2, 1) := by decide +kernel
theorem dM_restrict_100 : decode cM_restrict 100 = .ok (.laload, 1) := by decide +kernel
theorem dM_restrict_101 : decode cM_restrict 101 = .ok (.aload_n 0, 1) := by decide +kernel
theorem dM_restrict_102 : decode cM_restrict 102 = .ok (.getfield 16, 3) := by decide +kernel
theorem dM_restrict_105 : decode cM_restrict 105 = .ok (.iload_n 2, 1) := by decide +kernel
theorem dM_restrict_106 : decode cM_restrict 106 = .ok (.laload, 1) := by decide +kernel
theorem dM_restrict_107 : decode cM_restrict 107 = .ok (.iload 4, 2) := by decide +kernel
theorem dM_restrict_109 : decode cM_restrict 109 = .ok (.aload_n 0, 1) := by decide +kernel
theorem dM_restrict_110 : decode cM_restrict 110 = .ok (.getfield 23, 3) := by decide +kernel
theorem dM_restrict_113 : decode cM_restrict 113 = .ok (.iload_n 2, 1) := by decide +kernel
theorem dM_restrict_114 : decode cM_restrict 114 = .ok (.iaload, 1) := by decide +kernel
theorem dM_restrict_115 : decode cM_restrict 115 = .ok (.aload_n 0, 1) := by decide +kernel
theorem dM_restrict_116 : decode cM_restrict 116 = .ok (.getfield 26, 3) := by decide +kernel
theorem dM_restrict_119 : decode cM_restrict 119 = .ok (.iload_n 2, 1) := by decide +kernel
theorem dM_restrict_120 : decode cM_restrict 120 = .ok (.baload, 1) := by decide +kernel
theorem dM_restrict_121 : decode cM_restrict 121 = .ok (.ifCond .eq 26, 3) := by decide +kernel
theorem dM_restrict_124 : decode cM_restrict 124 = .ok (.aload_n 0, 1) := by decide +kernel
theorem dM_restrict_125 : decode cM_restrict 125 = .ok (.iload_n 2, 1) := by decide +kernel
theorem dM_restrict_126 : decode cM_restrict 126 = .ok (.invokevirtual 60, 3) := by decide +kernel
theorem dM_restrict_129 : decode cM_restrict 129 = .ok (.ifCond .eq 14, 3) := by decide +kernel
theorem dM_restrict_132 : decode cM_restrict 132 = .ok (.iload 4, 2) := by decide +kernel
theorem dM_restrict_134 : decode cM_restrict 134 = .ok (.aload_n 0, 1) := by decide +kernel
theorem dM_restrict_135 : decode cM_restrict 135 = .ok (.getfield 19, 3) := by decide +kernel
theorem dM_restrict_138 : decode cM_restrict 138 = .ok (.iload_n 2, 1) := by decide +kernel
theorem dM_restrict_139 : decode cM_restrict 139 = .ok (.iaload, 1) := by decide +kernel
theorem dM_restrict_140 : decode cM_restrict 140 = .ok (.if_icmp .ne 7, 3) := by decide +kernel
theorem dM_restrict_143 : decode cM_restrict 143 = .ok (.iconst 1, 1) := by decide +kernel
theorem dM_restrict_144 : decode cM_restrict 144 = .ok (.goto 4, 3) := by decide +kernel
theorem dM_restrict_147 : decode cM_restrict 147 = .ok (.iconst 0, 1) := by decide +kernel
theorem dM_restrict_148 : decode cM_restrict 148 = .ok (.invokevirtual 56, 3) := by decide +kernel
theorem dM_restrict_151 : decode cM_restrict 151 = .ok (.aload_n 0, 1) := by decide +kernel
theorem dM_restrict_152 : decode cM_restrict 152 = .ok (.getfield 26, 3) := by decide +kernel
theorem dM_restrict_155 : decode cM_restrict 155 = .ok (.iload_n 1, 1) := by decide +kernel
theorem dM_restrict_156 : decode cM_restrict 156 = .ok (.baload, 1) := by decide +kernel
theorem dM_restrict_157 : decode cM_restrict 157 = .ok (.ireturn, 1) := by decide +kernel
theorem dM_may_0 : decode cM_may 0 = .ok (.iconst 0, 1) := by decide +kernel
theorem dM_may_1 : decode cM_may 1 = .ok (.istore_n 3, 1) := by decide +kernel
theorem dM_may_2 : decode cM_may 2 = .ok (.iload_n 3, 1) := by decide +kernel
theorem dM_may_3 : decode cM_may 3 = .ok (.bipush 32, 2) := by decide +kernel
theorem dM_may_5 : decode cM_may 5 = .ok (.if_icmp .ge 33, 3) := by decide +kernel
theorem dM_may_8 : decode cM_may 8 = .ok (.iload_n 2, 1) := by decide +kernel
theorem dM_may_9 : decode cM_may 9 = .ok (.iload_n 3, 1) := by decide +kernel
theorem dM_may_10 : decode cM_may 10 = .ok (.ishr, 1) := by decide +kernel
theorem dM_may_11 : decode cM_may 11 = .ok (.iconst 1, 1) := by decide +kernel
theorem dM_may_12 : decode cM_may 12 = .ok (.iand, 1) := by decide +kernel
theorem dM_may_13 : decode cM_may 13 = .ok (.iconst 1, 1) := by decide +kernel
theorem dM_may_14 : decode cM_may 14 = .ok (.if_icmp .ne 18, 3) := by decide +kernel
theorem dM_may_17 : decode cM_may 17 = .ok (.aload_n 0, 1) := by decide +kernel
theorem dM_may_18 : decode cM_may 18 = .ok (.getfield 19, 3) := by decide +kernel
theorem dM_may_21 : decode cM_may 21 = .ok (.iload_n 1, 1) := by decide +kernel
theorem dM_may_22 : decode cM_may 22 = .ok (.iaload, 1) := by decide +kernel
theorem dM_may_23 : decode cM_may 23 = .ok (.iload_n 3, 1) := by decide +kernel
theorem dM_may_24 : decode cM_may 24 = .ok (.ishr, 1) := by decide +kernel
theorem dM_may_25 : decode cM_may 25 = .ok (.iconst 1, 1) := by decide +kernel
theorem dM_may_26 : decode cM_may 26 = .ok (.iand, 1) := by decide +kernel
theorem dM_may_27 : decode cM_may 27 = .ok (.ifCond .ne 5, 3) := by decide +kernel
theorem dM_may_30 : decode cM_may 30 = .ok (.iconst 0, 1) := by decide +kernel
theorem dM_may_31 : decode cM_may 31 = .ok (.ireturn, 1) := by decide +kernel
theorem dM_may_32 : decode cM_may 32 = .ok (.iinc 3 1, 3) := by decide +kernel
theorem dM_may_35 : decode cM_may 35 = .ok (.goto (-33), 3) := by decide +kernel
theorem dM_may_38 : decode cM_may 38 = .ok (.iconst 1, 1) := by decide +kernel
theorem dM_may_39 : decode cM_may 39 = .ok (.ireturn, 1) := by decide +kernel
theorem dM_holds_0 : decode cM_holds 0 = .ok (.lload 4, 2) := by decide +kernel
theorem dM_holds_2 : decode cM_holds 2 = .ok (.lconst 0, 1) := by decide +kernel
theorem dM_holds_3 : decode cM_holds 3 = .ok (.lcmp, 1) := by decide +kernel
theorem dM_holds_4 : decode cM_holds 4 = .ok (.ifCond .ne 31, 3) := by decide +kernel
theorem dM_holds_7 : decode cM_holds 7 = .ok (.lload_n 2, 1) := by decide +kernel
theorem dM_holds_8 : decode cM_holds 8 = .ok (.aload_n 0, 1) := by decide +kernel
theorem dM_holds_9 : decode cM_holds 9 = .ok (.getfield 13, 3) := by decide +kernel
theorem dM_holds_12 : decode cM_holds 12 = .ok (.iload_n 1, 1) := by decide +kernel
theorem dM_holds_13 : decode cM_holds 13 = .ok (.laload, 1) := by decide +kernel
theorem dM_holds_14 : decode cM_holds 14 = .ok (.lcmp, 1) := by decide +kernel
theorem dM_holds_15 : decode cM_holds 15 = .ok (.ifCond .lt 18, 3) := by decide +kernel
theorem dM_holds_18 : decode cM_holds 18 = .ok (.lload_n 2, 1) := by decide +kernel
theorem dM_holds_19 : decode cM_holds 19 = .ok (.aload_n 0, 1) := by decide +kernel
theorem dM_holds_20 : decode cM_holds 20 = .ok (.getfield 16, 3) := by decide +kernel
theorem dM_holds_23 : decode cM_holds 23 = .ok (.iload_n 1, 1) := by decide +kernel
theorem dM_holds_24 : decode cM_holds 24 = .ok (.laload, 1) := by decide +kernel
theorem dM_holds_25 : decode cM_holds 25 = .ok (.lcmp, 1) := by decide +kernel
theorem dM_holds_26 : decode cM_holds 26 = .ok (.ifCond .gt 7, 3) := by decide +kernel
theorem dM_holds_29 : decode cM_holds 29 = .ok (.iconst 1, 1) := by decide +kernel
theorem dM_holds_30 : decode cM_holds 30 = .ok (.goto 4, 3) := by decide +kernel
theorem dM_holds_33 : decode cM_holds 33 = .ok (.iconst 0, 1) := by decide +kernel
theorem dM_holds_34 : decode cM_holds 34 = .ok (.ireturn, 1) := by decide +kernel
theorem dM_holds_35 : decode cM_holds 35 = .ok (.iconst 0, 1) := by decide +kernel
theorem dM_holds_36 : decode cM_holds 36 = .ok (.istore 6, 2) := by decide +kernel
theorem dM_holds_38 : decode cM_holds 38 = .ok (.iload 6, 2) := by decide +kernel
theorem dM_holds_40 : decode cM_holds 40 = .ok (.iconst 2, 1) := by decide +kernel
theorem dM_holds_41 : decode cM_holds 41 = .ok (.if_icmp .ge 52, 3) := by decide +kernel
theorem dM_holds_44 : decode cM_holds 44 = .ok (.iload 6, 2) := by decide +kernel
theorem dM_holds_46 : decode cM_holds 46 = .ok (.ifCond .ne 7, 3) := by decide +kernel
theorem dM_holds_49 : decode cM_holds 49 = .ok (.lload_n 2, 1) := by decide +kernel
theorem dM_holds_50 : decode cM_holds 50 = .ok (.goto 9, 3) := by decide +kernel
theorem dM_holds_53 : decode cM_holds 53 = .ok (.lload_n 2, 1) := by decide +kernel
theorem dM_holds_54 : decode cM_holds 54 = .ok (.lload 4, 2) := by decide +kernel
theorem dM_holds_56 : decode cM_holds 56 = .ok (.ladd, 1) := by decide +kernel
theorem dM_holds_57 : decode cM_holds 57 = .ok (.lconst 1, 1) := by decide +kernel
theorem dM_holds_58 : decode cM_holds 58 = .ok (.lsub, 1) := by decide +kernel
theorem dM_holds_59 : decode cM_holds 59 = .ok (.lstore 7, 2) := by decide +kernel
theorem dM_holds_61 : decode cM_holds 61 = .ok (.lload 7, 2) := by decide +kernel
theorem dM_holds_63 : decode cM_holds 63 = .ok (.aload_n 0, 1) := by decide +kernel
theorem dM_holds_64 : decode cM_holds 64 = .ok (.getfield 13, 3) := by decide +kernel
theorem dM_holds_67 : decode cM_holds 67 = .ok (.iload_n 1, 1) := by decide +kernel
theorem dM_holds_68 : decode cM_holds 68 = .ok (.laload, 1) := by decide +kernel
theorem dM_holds_69 : decode cM_holds 69 = .ok (.lcmp, 1) := by decide +kernel
theorem dM_holds_70 : decode cM_holds 70 = .ok (.ifCond .lt 15, 3) := by decide +kernel
theorem dM_holds_73 : decode cM_holds 73 = .ok (.lload 7, 2) := by decide +kernel
theorem dM_holds_75 : decode cM_holds 75 = .ok (.aload_n 0, 1) := by decide +kernel
theorem dM_holds_76 : decode cM_holds 76 = .ok (.getfield 16, 3) := by decide +kernel
theorem dM_holds_79 : decode cM_holds 79 = .ok (.iload_n 1, 1) := by decide +kernel
theorem dM_holds_80 : decode cM_holds 80 = .ok (.laload, 1) := by decide +kernel
theorem dM_holds_81 : decode cM_holds 81 = .ok (.lcmp, 1) := by decide +kernel
theorem dM_holds_82 : decode cM_holds 82 = .ok (.ifCond .lt 5, 3) := by decide +kernel
theorem dM_holds_85 : decode cM_holds 85 = .ok (.iconst 0, 1) := by decide +kernel
theorem dM_holds_86 : decode cM_holds 86 = .ok (.ireturn, 1) := by decide +kernel
theorem dM_holds_87 : decode cM_holds 87 = .ok (.iinc 6 1, 3) := by decide +kernel
theorem dM_holds_90 : decode cM_holds 90 = .ok (.goto (-52), 3) := by decide +kernel
theorem dM_holds_93 : decode cM_holds 93 = .ok (.iconst 1, 1) := by decide +kernel
theorem dM_holds_94 : decode cM_holds 94 = .ok (.ireturn, 1) := by decide +kernel
theorem dM_seal_0 : decode cM_seal 0 = .ok (.aload_n 0, 1) := by decide +kernel
theorem dM_seal_1 : decode cM_seal 1 = .ok (.iconst 0, 1) := by decide +kernel
theorem dM_seal_2 : decode cM_seal 2 = .ok (.putfield 30, 3) := by decide +kernel
theorem dM_seal_5 : decode cM_seal 5 = .ok (.aload_n 0, 1) := by decide +kernel
theorem dM_seal_6 : decode cM_seal 6 = .ok (.iload_n 1, 1) := by decide +kernel
theorem dM_seal_7 : decode cM_seal 7 = .ok (.invokestatic 52, 3) := by decide +kernel
theorem dM_seal_10 : decode cM_seal 10 = .ok (.ifCond .eq 17, 3) := by decide +kernel
theorem dM_seal_13 : decode cM_seal 13 = .ok (.iload_n 2, 1) := by decide +kernel
theorem dM_seal_14 : decode cM_seal 14 = .ok (.invokestatic 52, 3) := by decide +kernel
theorem dM_seal_17 : decode cM_seal 17 = .ok (.ifCond .eq 10, 3) := by decide +kernel
theorem dM_seal_20 : decode cM_seal 20 = .ok (.iload_n 3, 1) := by decide +kernel
theorem dM_seal_21 : decode cM_seal 21 = .ok (.invokestatic 52, 3) := by decide +kernel
theorem dM_seal_24 : decode cM_seal 24 = .ok (.ifCond .ne 7, 3) := by decide +kernel
theorem dM_seal_27 : decode cM_seal 27 = .ok (.iconst 1, 1) := by decide +kernel
theorem dM_seal_28 : decode cM_seal 28 = .ok (.goto 4, 3) := by decide +kernel
theorem dM_seal_31 : decode cM_seal 31 = .ok (.iconst 0, 1) := by decide +kernel
theorem dM_seal_32 : decode cM_seal 32 = .ok (.iconst 1, 1) := by decide +kernel
theorem dM_seal_33 : decode cM_seal 33 = .ok (.invokevirtual 48, 3) := by decide +kernel
theorem dM_seal_36 : decode cM_seal 36 = .ok (.ifCond .eq 5, 3) := by decide +kernel
theorem dM_seal_39 : decode cM_seal 39 = .ok (.iconst 0, 1) := by decide +kernel
theorem dM_seal_40 : decode cM_seal 40 = .ok (.ireturn, 1) := by decide +kernel
theorem dM_seal_41 : decode cM_seal 41 = .ok (.aload_n 0, 1) := by decide +kernel
theorem dM_seal_42 : decode cM_seal 42 = .ok (.getfield 26, 3) := by decide +kernel
theorem dM_seal_45 : decode cM_seal 45 = .ok (.iload_n 2, 1) := by decide +kernel
theorem dM_seal_46 : decode cM_seal 46 = .ok (.baload, 1) := by decide +kernel
theorem dM_seal_47 : decode cM_seal 47 = .ok (.ifCond .eq 12, 3) := by decide +kernel
theorem dM_seal_50 : decode cM_seal 50 = .ok (.aload_n 0, 1) := by decide +kernel
theorem dM_seal_51 : decode cM_seal 51 = .ok (.getfield 26, 3) := by decide +kernel
theorem dM_seal_54 : decode cM_seal 54 = .ok (.iload_n 3, 1) := by decide +kernel
theorem dM_seal_55 : decode cM_seal 55 = .ok (.baload, 1) := by decide +kernel
theorem dM_seal_56 : decode cM_seal 56 = .ok (.ifCond .ne 5, 3) := by decide +kernel
theorem dM_seal_59 : decode cM_seal 59 = .ok (.iconst 1, 1) := by decide +kernel
theorem dM_seal_60 : decode cM_seal 60 = .ok (.ireturn, 1) := by decide +kernel
theorem dM_seal_61 : decode cM_seal 61 = .ok (.aload_n 0, 1) := by decide +kernel
theorem dM_seal_62 : decode cM_seal 62 = .ok (.iload_n 2, 1) := by decide +kernel
theorem dM_seal_63 : decode cM_seal 63 = .ok (.invokevirtual 60, 3) := by decide +kernel
theorem dM_seal_66 : decode cM_seal 66 = .ok (.ifCond .ne 11, 3) := by decide +kernel
theorem dM_seal_69 : decode cM_seal 69 = .ok (.aload_n 0, 1) := by decide +kernel
theorem dM_seal_70 : decode cM_seal 70 = .ok (.iload_n 3, 1) := by decide +kernel
theorem dM_seal_71 : decode cM_seal 71 = .ok (.invokevirtual 60, 3) := by decide +kernel
theorem dM_seal_74 : decode cM_seal 74 = .ok (.ifCond .eq 5, 3) := by decide +kernel
theorem dM_seal_77 : decode cM_seal 77 = .ok (.iconst 2, 1) := by decide +kernel
theorem dM_seal_78 : decode cM_seal 78 = .ok (.ireturn, 1) := by decide +kernel
theorem dM_seal_79 : decode cM_seal 79 = .ok (.aload_n 0, 1) := by decide +kernel
theorem dM_seal_80 : decode cM_seal 80 = .ok (.iload_n 3, 1) := by decide +kernel
theorem dM_seal_81 : decode cM_seal 81 = .ok (.bipush 32, 2) := by decide +kernel
theorem dM_seal_83 : decode cM_seal 83 = .ok (.invokevirtual 63, 3) := by decide +kernel
theorem dM_seal_86 : decode cM_seal 86 = .ok (.ifCond .ne 5, 3) := by decide +kernel
theorem dM_seal_89 : decode cM_seal 89 = .ok (.iconst 3, 1) := by decide +kernel
theorem dM_seal_90 : decode cM_seal 90 = .ok (.ireturn, 1) := by decide +kernel
theorem dM_seal_91 : decode cM_seal 91 = .ok (.aload_n 0, 1) := by decide +kernel
theorem dM_seal_92 : decode cM_seal 92 = .ok (.iload_n 3, 1) := by decide +kernel
theorem dM_seal_93 : decode cM_seal 93 = .ok (.aload_n 0, 1) := by decide +kernel
theorem dM_seal_94 : decode cM_seal 94 = .ok (.getfield 9, 3) := by decide +kernel
theorem dM_seal_97 : decode cM_seal 97 = .ok (.iload_n 3, 1) := by decide +kernel
theorem dM_seal_98 : decode cM_seal 98 = .ok (.laload, 1) := by decide +kernel
theorem dM_seal_99 : decode cM_seal 99 = .ok (.lconst 1, 1) := by decide +kernel
theorem dM_seal_100 : decode cM_seal 100 = .ok (.invokevirtual 67, 3) := by decide +kernel
theorem dM_seal_103 : decode cM_seal 103 = .ok (.ifCond .eq 19, 3) := by decide +kernel
theorem dM_seal_106 : decode cM_seal 106 = .ok (.aload_n 0, 1) := by decide +kernel
theorem dM_seal_107 : decode cM_seal 107 = .ok (.getfield 9, 3) := by decide +kernel
theorem dM_seal_110 : decode cM_seal 110 = .ok (.iload_n 3, 1) := by decide +kernel
theorem dM_seal_111 : decode cM_seal 111 = .ok (.laload, 1) := by decide +kernel
theorem dM_seal_112 : decode cM_seal 112 = .ok (.lconst 1, 1) := by decide +kernel
theorem dM_seal_113 : decode cM_seal 113 = .ok (.ldc2_w 71, 3) := by decide +kernel
theorem dM_seal_116 : decode cM_seal 116 = .ok (.invokestatic 36, 3) := by decide +kernel
theorem dM_seal_119 : decode cM_seal 119 = .ok (.ifCond .ne 5, 3) := by decide +kernel
theorem dM_seal_122 : decode cM_seal 122 = .ok (.iconst 4, 1) := by decide +kernel
theorem dM_seal_123 : decode cM_seal 123 = .ok (.ireturn, 1) := by decide +kernel
theorem dM_seal_124 : decode cM_seal 124 = .ok (.aload_n 0, 1) := by decide +kernel
theorem dM_seal_125 : decode cM_seal 125 = .ok (.iload_n 1, 1) := by decide +kernel
theorem dM_seal_126 : decode cM_seal 126 = .ok (.aload_n 0, 1) := by decide +kernel
theorem dM_seal_127 : decode cM_seal 127 = .ok (.getfield 9, 3) := by decide +kernel
theorem dM_seal_130 : decode cM_seal 130 = .ok (.iload_n 2, 1) := by decide +kernel
theorem dM_seal_131 : decode cM_seal 131 = .ok (.laload, 1) := by decide +kernel
theorem dM_seal_132 : decode cM_seal 132 = .ok (.aload_n 0, 1) := by decide +kernel
theorem dM_seal_133 : decode cM_seal 133 = .ok (.getfield 13, 3) := by decide +kernel
theorem dM_seal_136 : decode cM_seal 136 = .ok (.iload_n 2, 1) := by decide +kernel
theorem dM_seal_137 : decode cM_seal 137 = .ok (.laload, 1) := by decide +kernel
theorem dM_seal_138 : decode cM_seal 138 = .ok (.aload_n 0, 1) := by decide +kernel
theorem dM_seal_139 : decode cM_seal 139 = .ok (.getfield 16, 3) := by decide +kernel
theorem dM_seal_142 : decode cM_seal 142 = .ok (.iload_n 2, 1) := by decide +kernel
theorem dM_seal_143 : decode cM_seal 143 = .ok (.laload, 1) := by decide +kernel
theorem dM_seal_144 : decode cM_seal 144 = .ok (.aload_n 0, 1) := by decide +kernel
theorem dM_seal_145 : decode cM_seal 145 = .ok (.getfield 19, 3) := by decide +kernel
theorem dM_seal_148 : decode cM_seal 148 = .ok (.iload_n 2, 1) := by decide +kernel
theorem dM_seal_149 : decode cM_seal 149 = .ok (.iaload, 1) := by decide +kernel
theorem dM_seal_150 : decode cM_seal 150 = .ok (.aload_n 0, 1) := by decide +kernel
theorem dM_seal_151 : decode cM_seal 151 = .ok (.getfield 9, 3) := by decide +kernel
theorem dM_seal_154 : decode cM_seal 154 = .ok (.iload_n 3, 1) := by decide +kernel
theorem dM_seal_155 : decode cM_seal 155 = .ok (.laload, 1) := by decide +kernel
theorem dM_seal_156 : decode cM_seal 156 = .ok (.l2i, 1) := by decide +kernel
theorem dM_seal_157 : decode cM_seal 157 = .ok (.iconst 1, 1) := by decide +kernel
theorem dM_seal_158 : decode cM_seal 158 = .ok (.invokevirtual 56, 3) := by decide +kernel
theorem dM_seal_161 : decode cM_seal 161 = .ok (.iconst 0, 1) := by decide +kernel
theorem dM_seal_162 : decode cM_seal 162 = .ok (.ireturn, 1) := by decide +kernel
theorem dM_unseal_0 : decode cM_unseal 0 = .ok (.aload_n 0, 1) := by decide +kernel
theorem dM_unseal_1 : decode cM_unseal 1 = .ok (.iconst 0, 1) := by decide +kernel
theorem dM_unseal_2 : decode cM_unseal 2 = .ok (.putfield 30, 3) := by decide +kernel
theorem dM_unseal_5 : decode cM_unseal 5 = .ok (.aload_n 0, 1) := by decide +kernel
theorem dM_unseal_6 : decode cM_unseal 6 = .ok (.iload_n 1, 1) := by decide +kernel
theorem dM_unseal_7 : decode cM_unseal 7 = .ok (.invokestatic 52, 3) := by decide +kernel
theorem dM_unseal_10 : decode cM_unseal 10 = .ok (.ifCond .eq 17, 3) := by decide +kernel
theorem dM_unseal_13 : decode cM_unseal 13 = .ok (.iload_n 2, 1) := by decide +kernel
theorem dM_unseal_14 : decode cM_unseal 14 = .ok (.invokestatic 52, 3) := by decide +kernel
theorem dM_unseal_17 : decode cM_unseal 17 = .ok (.ifCond .eq 10, 3) := by decide +kernel
theorem dM_unseal_20 : decode cM_unseal 20 = .ok (.iload_n 3, 1) := by decide +kernel
theorem dM_unseal_21 : decode cM_unseal 21 = .ok (.invokestatic 52, 3) := by decide +kernel
theorem dM_unseal_24 : decode cM_unseal 24 = .ok (.ifCond .ne 7, 3) := by decide +kernel
theorem dM_unseal_27 : decode cM_unseal 27 = .ok (.iconst 1, 1) := by decide +kernel
theorem dM_unseal_28 : decode cM_unseal 28 = .ok (.goto 4, 3) := by decide +kernel
theorem dM_unseal_31 : decode cM_unseal 31 = .ok (.iconst 0, 1) := by decide +kernel
theorem dM_unseal_32 : decode cM_unseal 32 = .ok (.iconst 1, 1) := by decide +kernel
theorem dM_unseal_33 : decode cM_unseal 33 = .ok (.invokevirtual 48, 3) := by decide +kernel
theorem dM_unseal_36 : decode cM_unseal 36 = .ok (.ifCond .eq 5, 3) := by decide +kernel
theorem dM_unseal_39 : decode cM_unseal 39 = .ok (.iconst 0, 1) := by decide +kernel
theorem dM_unseal_40 : decode cM_unseal 40 = .ok (.ireturn, 1) := by decide +kernel
theorem dM_unseal_41 : decode cM_unseal 41 = .ok (.aload_n 0, 1) := by decide +kernel
theorem dM_unseal_42 : decode cM_unseal 42 = .ok (.getfield 26, 3) := by decide +kernel
theorem dM_unseal_45 : decode cM_unseal 45 = .ok (.iload_n 2, 1) := by decide +kernel
theorem dM_unseal_46 : decode cM_unseal 46 = .ok (.baload, 1) := by decide +kernel
theorem dM_unseal_47 : decode cM_unseal 47 = .ok (.ifCond .eq 12, 3) := by decide +kernel
theorem dM_unseal_50 : decode cM_unseal 50 = .ok (.aload_n 0, 1) := by decide +kernel
theorem dM_unseal_51 : decode cM_unseal 51 = .ok (.getfield 26, 3) := by decide +kernel
theorem dM_unseal_54 : decode cM_unseal 54 = .ok (.iload_n 3, 1) := by decide +kernel
theorem dM_unseal_55 : decode cM_unseal 55 = .ok (.baload, 1) := by decide +kernel
theorem dM_unseal_56 : decode cM_unseal 56 = .ok (.ifCond .ne 5, 3) := by decide +kernel
theorem dM_unseal_59 : decode cM_unseal 59 = .ok (.iconst 1, 1) := by decide +kernel
theorem dM_unseal_60 : decode cM_unseal 60 = .ok (.ireturn, 1) := by decide +kernel
theorem dM_unseal_61 : decode cM_unseal 61 = .ok (.aload_n 0, 1) := by decide +kernel
theorem dM_unseal_62 : decode cM_unseal 62 = .ok (.iload_n 2, 1) := by decide +kernel
theorem dM_unseal_63 : decode cM_unseal 63 = .ok (.invokevirtual 60, 3) := by decide +kernel
theorem dM_unseal_66 : decode cM_unseal 66 = .ok (.ifCond .eq 11, 3) := by decide +kernel
theorem dM_unseal_69 : decode cM_unseal 69 = .ok (.aload_n 0, 1) := by decide +kernel
theorem dM_unseal_70 : decode cM_unseal 70 = .ok (.iload_n 3, 1) := by decide +kernel
theorem dM_unseal_71 : decode cM_unseal 71 = .ok (.invokevirtual 60, 3) := by decide +kernel
theorem dM_unseal_74 : decode cM_unseal 74 = .ok (.ifCond .eq 5, 3) := by decide +kernel
theorem dM_unseal_77 : decode cM_unseal 77 = .ok (.iconst 2, 1) := by decide +kernel
theorem dM_unseal_78 : decode cM_unseal 78 = .ok (.ireturn, 1) := by decide +kernel
theorem dM_unseal_79 : decode cM_unseal 79 = .ok (.aload_n 0, 1) := by decide +kernel
theorem dM_unseal_80 : decode cM_unseal 80 = .ok (.iload_n 3, 1) := by decide +kernel
theorem dM_unseal_81 : decode cM_unseal 81 = .ok (.bipush 64, 2) := by decide +kernel
theorem dM_unseal_83 : decode cM_unseal 83 = .ok (.invokevirtual 63, 3) := by decide +kernel
theorem dM_unseal_86 : decode cM_unseal 86 = .ok (.ifCond .ne 5, 3) := by decide +kernel
theorem dM_unseal_89 : decode cM_unseal 89 = .ok (.iconst 3, 1) := by decide +kernel
theorem dM_unseal_90 : decode cM_unseal 90 = .ok (.ireturn, 1) := by decide +kernel
theorem dM_unseal_91 : decode cM_unseal 91 = .ok (.aload_n 0, 1) := by decide +kernel
theorem dM_unseal_92 : decode cM_unseal 92 = .ok (.iload_n 3, 1) := by decide +kernel
theorem dM_unseal_93 : decode cM_unseal 93 = .ok (.aload_n 0, 1) := by decide +kernel
theorem dM_unseal_94 : decode cM_unseal 94 = .ok (.getfield 9, 3) := by decide +kernel
theorem dM_unseal_97 : decode cM_unseal 97 = .ok (.iload_n 3, 1) := by decide +kernel
theorem dM_unseal_98 : decode cM_unseal 98 = .ok (.laload, 1) := by decide +kernel
theorem dM_unseal_99 : decode cM_unseal 99 = .ok (.lconst 1, 1) := by decide +kernel
theorem dM_unseal_100 : decode cM_unseal 100 = .ok (.invokevirtual 67, 3) := by decide +kernel
theorem dM_unseal_103 : decode cM_unseal 103 = .ok (.ifCond .eq 20, 3) := by decide +kernel
theorem dM_unseal_106 : decode cM_unseal 106 = .ok (.aload_n 0, 1) := by decide +kernel
theorem dM_unseal_107 : decode cM_unseal 107 = .ok (.getfield 9, 3) := by decide +kernel
theorem dM_unseal_110 : decode cM_unseal 110 = .ok (.iload_n 3, 1) := by decide +kernel
theorem dM_unseal_111 : decode cM_unseal 111 = .ok (.laload, 1) := by decide +kernel
theorem dM_unseal_112 : decode cM_unseal 112 = .ok (.aload_n 0, 1) := by decide +kernel
theorem dM_unseal_113 : decode cM_unseal 113 = .ok (.getfield 23, 3) := by decide +kernel
theorem dM_unseal_116 : decode cM_unseal 116 = .ok (.iload_n 2, 1) := by decide +kernel
theorem dM_unseal_117 : decode cM_unseal 117 = .ok (.iaload, 1) := by decide +kernel
theorem dM_unseal_118 : decode cM_unseal 118 = .ok (.i2l, 1) := by decide +kernel
theorem dM_unseal_119 : decode cM_unseal 119 = .ok (.lcmp, 1) := by decide +kernel
theorem dM_unseal_120 : decode cM_unseal 120 = .ok (.ifCond .eq 5, 3) := by decide +kernel
theorem dM_unseal_123 : decode cM_unseal 123 = .ok (.iconst 4, 1) := by decide +kernel
theorem dM_unseal_124 : decode cM_unseal 124 = .ok (.ireturn, 1) := by decide +kernel
theorem dM_unseal_125 : decode cM_unseal 125 = .ok (.aload_n 0, 1) := by decide +kernel
theorem dM_unseal_126 : decode cM_unseal 126 = .ok (.iload_n 1, 1) := by decide +kernel
theorem dM_unseal_127 : decode cM_unseal 127 = .ok (.aload_n 0, 1) := by decide +kernel
theorem dM_unseal_128 : decode cM_unseal 128 = .ok (.getfield 9, 3) := by decide +kernel
theorem dM_unseal_131 : decode cM_unseal 131 = .ok (.iload_n 2, 1) := by decide +kernel
theorem dM_unseal_132 : decode cM_unseal 132 = .ok (.laload, 1) := by decide +kernel
theorem dM_unseal_133 : decode cM_unseal 133 = .ok (.aload_n 0, 1) := by decide +kernel
theorem dM_unseal_134 : decode cM_unseal 134 = .ok (.getfield 13, 3) := by decide +kernel
theorem dM_unseal_137 : decode cM_unseal 137 = .ok (.iload_n 2, 1) := by decide +kernel
theorem dM_unseal_138 : decode cM_unseal 138 = .ok (.laload, 1) := by decide +kernel
theorem dM_unseal_139 : decode cM_unseal 139 = .ok (.aload_n 0, 1) := by decide +kernel
theorem dM_unseal_140 : decode cM_unseal 140 = .ok (.getfield 16, 3) := by decide +kernel
theorem dM_unseal_143 : decode cM_unseal 143 = .ok (.iload_n 2, 1) := by decide +kernel
theorem dM_unseal_144 : decode cM_unseal 144 = .ok (.laload, 1) := by decide +kernel
theorem dM_unseal_145 : decode cM_unseal 145 = .ok (.aload_n 0, 1) := by decide +kernel
theorem dM_unseal_146 : decode cM_unseal 146 = .ok (.getfield 19, 3) := by decide +kernel
theorem dM_unseal_149 : decode cM_unseal 149 = .ok (.iload_n 2, 1) := by decide +kernel
theorem dM_unseal_150 : decode cM_unseal 150 = .ok (.iaload, 1) := by decide +kernel
theorem dM_unseal_151 : decode cM_unseal 151 = .ok (.iconst 0, 1) := by decide +kernel
theorem dM_unseal_152 : decode cM_unseal 152 = .ok (.iconst 1, 1) := by decide +kernel
theorem dM_unseal_153 : decode cM_unseal 153 = .ok (.invokevirtual 56, 3) := by decide +kernel
theorem dM_unseal_156 : decode cM_unseal 156 = .ok (.iconst 0, 1) := by decide +kernel
theorem dM_unseal_157 : decode cM_unseal 157 = .ok (.ireturn, 1) := by decide +kernel
theorem dM_allows_0 : decode cM_allows 0 = .ok (.aload_n 0, 1) := by decide +kernel
theorem dM_allows_1 : decode cM_allows 1 = .ok (.iconst 0, 1) := by decide +kernel
theorem dM_allows_2 : decode cM_allows 2 = .ok (.putfield 30, 3) := by decide +kernel
theorem dM_allows_5 : decode cM_allows 5 = .ok (.aload_n 0, 1) := by decide +kernel
theorem dM_allows_6 : decode cM_allows 6 = .ok (.iload_n 3, 1) := by decide +kernel
theorem dM_allows_7 : decode cM_allows 7 = .ok (.i2l, 1) := by decide +kernel
theorem dM_allows_8 : decode cM_allows 8 = .ok (.lconst 0, 1) := by decide +kernel
theorem dM_allows_9 : decode cM_allows 9 = .ok (.ldc2_w 73, 3) := by decide +kernel
theorem dM_allows_12 : decode cM_allows 12 = .ok (.invokestatic 36, 3) := by decide +kernel
theorem dM_allows_15 : decode cM_allows 15 = .ok (.ifCond .ne 7, 3) := by decide +kernel
theorem dM_allows_18 : decode cM_allows 18 = .ok (.iconst 1, 1) := by decide +kernel
theorem dM_allows_19 : decode cM_allows 19 = .ok (.goto 4, 3) := by decide +kernel
theorem dM_allows_22 : decode cM_allows 22 = .ok (.iconst 0, 1) := by decide +kernel
theorem dM_allows_23 : decode cM_allows 23 = .ok (.iconst 1, 1) := by decide +kernel
theorem dM_allows_24 : decode cM_allows 24 = .ok (.invokevirtual 48, 3) := by decide +kernel
theorem dM_allows_27 : decode cM_allows 27 = .ok (.ifCond .ne 23, 3) := by decide +kernel
theorem dM_allows_30 : decode cM_allows 30 = .ok (.aload_n 0, 1) := by decide +kernel
theorem dM_allows_31 : decode cM_allows 31 = .ok (.iload_n 1, 1) := by decide +kernel
theorem dM_allows_32 : decode cM_allows 32 = .ok (.invokestatic 52, 3) := by decide +kernel
theorem dM_allows_35 : decode cM_allows 35 = .ok (.ifCond .ne 7, 3) := by decide +kernel
theorem dM_allows_38 : decode cM_allows 38 = .ok (.iconst 1, 1) := by decide +kernel
theorem dM_allows_39 : decode cM_allows 39 = .ok (.goto 4, 3) := by decide +kernel
theorem dM_allows_42 : decode cM_allows 42 = .ok (.iconst 0, 1) := by decide +kernel
theorem dM_allows_43 : decode cM_allows 43 = .ok (.iconst 2, 1) := by decide +kernel
theorem dM_allows_44 : decode cM_allows 44 = .ok (.invokevirtual 48, 3) := by decide +kernel
theorem dM_allows_47 : decode cM_allows 47 = .ok (.ifCond .eq 5, 3) := by decide +kernel
theorem dM_allows_50 : decode cM_allows 50 = .ok (.iconst 0, 1) := by decide +kernel
theorem dM_allows_51 : decode cM_allows 51 = .ok (.ireturn, 1) := by decide +kernel
theorem dM_allows_52 : decode cM_allows 52 = .ok (.aload_n 0, 1) := by decide +kernel
theorem dM_allows_53 : decode cM_allows 53 = .ok (.getfield 26, 3) := by decide +kernel
theorem dM_allows_56 : decode cM_allows 56 = .ok (.iload_n 1, 1) := by decide +kernel
theorem dM_allows_57 : decode cM_allows 57 = .ok (.baload, 1) := by decide +kernel
theorem dM_allows_58 : decode cM_allows 58 = .ok (.ifCond .ne 7, 3) := by decide +kernel
theorem dM_allows_61 : decode cM_allows 61 = .ok (.iconst 1, 1) := by decide +kernel
theorem dM_allows_62 : decode cM_allows 62 = .ok (.goto 59, 3) := by decide +kernel
theorem dM_allows_65 : decode cM_allows 65 = .ok (.aload_n 0, 1) := by decide +kernel
theorem dM_allows_66 : decode cM_allows 66 = .ok (.iload_n 1, 1) := by decide +kernel
theorem dM_allows_67 : decode cM_allows 67 = .ok (.invokevirtual 60, 3) := by decide +kernel
theorem dM_allows_70 : decode cM_allows 70 = .ok (.ifCond .eq 7, 3) := by decide +kernel
theorem dM_allows_73 : decode cM_allows 73 = .ok (.iconst 2, 1) := by decide +kernel
theorem dM_allows_74 : decode cM_allows 74 = .ok (.goto 47, 3) := by decide +kernel
theorem dM_allows_77 : decode cM_allows 77 = .ok (.aload_n 0, 1) := by decide +kernel
theorem dM_allows_78 : decode cM_allows 78 = .ok (.iload_n 1, 1) := by decide +kernel
theorem dM_allows_79 : decode cM_allows 79 = .ok (.iload 4, 2) := by decide +kernel
theorem dM_allows_81 : decode cM_allows 81 = .ok (.invokevirtual 63, 3) := by decide +kernel
theorem dM_allows_84 : decode cM_allows 84 = .ok (.ifCond .ne 7, 3) := by decide +kernel
theorem dM_allows_87 : decode cM_allows 87 = .ok (.iconst 3, 1) := by decide +kernel
theorem dM_allows_88 : decode cM_allows 88 = .ok (.goto 33, 3) := by decide +kernel
theorem dM_allows_91 : decode cM_allows 91 = .ok (.aload_n 0, 1) := by decide +kernel
theorem dM_allows_92 : decode cM_allows 92 = .ok (.iload_n 1, 1) := by decide +kernel
theorem dM_allows_93 : decode cM_allows 93 = .ok (.aload_n 0, 1) := by decide +kernel
theorem dM_allows_94 : decode cM_allows 94 = .ok (.getfield 9, 3) := by decide +kernel
theorem dM_allows_97 : decode cM_allows 97 = .ok (.iload_n 1, 1) := by decide +kernel
theorem dM_allows_98 : decode cM_allows 98 = .ok (.laload, 1) := by decide +kernel
theorem dM_allows_99 : decode cM_allows 99 = .ok (.iload_n 2, 1) := by decide +kernel
theorem dM_allows_100 : decode cM_allows 100 = .ok (.invokestatic 42, 3) := by decide +kernel
theorem dM_allows_103 : decode cM_allows 103 = .ok (.ladd, 1) := by decide +kernel
theorem dM_allows_104 : decode cM_allows 104 = .ok (.ldc2_w 40, 3) := by decide +kernel
theorem dM_allows_107 : decode cM_allows 107 = .ok (.lrem, 1) := by decide +kernel
theorem dM_allows_108 : decode cM_allows 108 = .ok (.iload_n 3, 1) := by decide +kernel
theorem dM_allows_109 : decode cM_allows 109 = .ok (.i2l, 1) := by decide +kernel
theorem dM_allows_110 : decode cM_allows 110 = .ok (.invokevirtual 67, 3) := by decide +kernel
theorem dM_allows_113 : decode cM_allows 113 = .ok (.ifCond .eq 7, 3) := by decide +kernel
theorem dM_allows_116 : decode cM_allows 116 = .ok (.iconst 0, 1) := by decide +kernel
theorem dM_allows_117 : decode cM_allows 117 = .ok (.goto 4, 3) := by decide +kernel
theorem dM_allows_120 : decode cM_allows 120 = .ok (.iconst 4, 1) := by decide +kernel
theorem dM_allows_121 : decode cM_allows 121 = .ok (.ireturn, 1) := by decide +kernel
theorem dM_within_0 : decode cM_within 0 = .ok (.aload_n 0, 1) := by decide +kernel
theorem dM_within_1 : decode cM_within 1 = .ok (.iconst 0, 1) := by decide +kernel
theorem dM_within_2 : decode cM_within 2 = .ok (.putfield 30, 3) := by decide +kernel
theorem dM_within_5 : decode cM_within 5 = .ok (.aload_n 0, 1) := by decide +kernel
theorem dM_within_6 : decode cM_within 6 = .ok (.iload_n 1, 1) := by decide +kernel
theorem dM_within_7 : decode cM_within 7 = .ok (.invokestatic 52, 3) := by decide +kernel
theorem dM_within_10 : decode cM_within 10 = .ok (.ifCond .eq 10, 3) := by decide +kernel
theorem dM_within_13 : decode cM_within 13 = .ok (.iload_n 2, 1) := by decide +kernel
theorem dM_within_14 : decode cM_within 14 = .ok (.invokestatic 52, 3) := by decide +kernel
theorem dM_within_17 : decode cM_within 17 = .ok (.ifCond .ne 7, 3) := by decide +kernel
theorem dM_within_20 : decode cM_within 20 = .ok (.iconst 1, 1) := by decide +kernel
theorem dM_within_21 : decode cM_within 21 = .ok (.goto 4, 3) := by decide +kernel
theorem dM_within_24 : decode cM_within 24 = .ok (.iconst 0, 1) := by decide +kernel
theorem dM_within_25 : decode cM_within 25 = .ok (.iconst 1, 1) := by decide +kernel
theorem dM_within_26 : decode cM_within 26 = .ok (.invokevirtual 48, 3) := by decide +kernel
theorem dM_within_29 : decode cM_within 29 = .ok (.ifCond .eq 5, 3) := by decide +kernel
theorem dM_within_32 : decode cM_within 32 = .ok (.iconst 0, 1) := by decide +kernel
theorem dM_within_33 : decode cM_within 33 = .ok (.ireturn, 1) := by decide +kernel
theorem dM_within_34 : decode cM_within 34 = .ok (.aload_n 0, 1) := by decide +kernel
theorem dM_within_35 : decode cM_within 35 = .ok (.getfield 26, 3) := by decide +kernel
theorem dM_within_38 : decode cM_within 38 = .ok (.iload_n 1, 1) := by decide +kernel
theorem dM_within_39 : decode cM_within 39 = .ok (.baload, 1) := by decide +kernel
theorem dM_within_40 : decode cM_within 40 = .ok (.ifCond .eq 62, 3) := by decide +kernel
theorem dM_within_43 : decode cM_within 43 = .ok (.aload_n 0, 1) := by decide +kernel
theorem dM_within_44 : decode cM_within 44 = .ok (.getfield 26, 3) := by decide +kernel
theorem dM_within_47 : decode cM_within 47 = .ok (.iload_n 2, 1) := by decide +kernel
theorem dM_within_48 : decode cM_within 48 = .ok (.baload, 1) := by decide +kernel
theorem dM_within_49 : decode cM_within 49 = .ok (.ifCond .eq 53, 3) := by decide +kernel
theorem dM_within_52 : decode cM_within 52 = .ok (.aload_n 0, 1) := by decide +kernel
theorem dM_within_53 : decode cM_within 53 = .ok (.getfield 13, 3) := by decide +kernel
theorem dM_within_56 : decode cM_within 56 = .ok (.iload_n 1, 1) := by decide +kernel
theorem dM_within_57 : decode cM_within 57 = .ok (.laload, 1) := by decide +kernel
theorem dM_within_58 : decode cM_within 58 = .ok (.aload_n 0, 1) := by decide +kernel
theorem dM_within_59 : decode cM_within 59 = .ok (.getfield 13, 3) := by decide +kernel
theorem dM_within_62 : decode cM_within 62 = .ok (.iload_n 2, 1) := by decide +kernel
theorem dM_within_63 : decode cM_within 63 = .ok (.laload, 1) := by decide +kernel
theorem dM_within_64 : decode cM_within 64 = .ok (.lcmp, 1) := by decide +kernel
theorem dM_within_65 : decode cM_within 65 = .ok (.ifCond .lt 37, 3) := by decide +kernel
theorem dM_within_68 : decode cM_within 68 = .ok (.aload_n 0, 1) := by decide +kernel
theorem dM_within_69 : decode cM_within 69 = .ok (.getfield 16, 3) := by decide +kernel
theorem dM_within_72 : decode cM_within 72 = .ok (.iload_n 1, 1) := by decide +kernel
theorem dM_within_73 : decode cM_within 73 = .ok (.laload, 1) := by decide +kernel
theorem dM_within_74 : decode cM_within 74 = .ok (.aload_n 0, 1) := by decide +kernel
theorem dM_within_75 : decode cM_within 75 = .ok (.getfield 16, 3) := by decide +kernel
theorem dM_within_78 : decode cM_within 78 = .ok (.iload_n 2, 1) := by decide +kernel
theorem dM_within_79 : decode cM_within 79 = .ok (.laload, 1) := by decide +kernel
theorem dM_within_80 : decode cM_within 80 = .ok (.lcmp, 1) := by decide +kernel
theorem dM_within_81 : decode cM_within 81 = .ok (.ifCond .gt 21, 3) := by decide +kernel
theorem dM_within_84 : decode cM_within 84 = .ok (.aload_n 0, 1) := by decide +kernel
theorem dM_within_85 : decode cM_within 85 = .ok (.iload_n 2, 1) := by decide +kernel
theorem dM_within_86 : decode cM_within 86 = .ok (.aload_n 0, 1) := by decide +kernel
theorem dM_within_87 : decode cM_within 87 = .ok (.getfield 19, 3) := by decide +kernel
theorem dM_within_90 : decode cM_within 90 = .ok (.iload_n 1, 1) := by decide +kernel
theorem dM_within_91 : decode cM_within 91 = .ok (.iaload, 1) := by decide +kernel
theorem dM_within_92 : decode cM_within 92 = .ok (.invokevirtual 63, 3) := by decide +kernel
theorem dM_within_95 : decode cM_within 95 = .ok (.ifCond .eq 7, 3) := by decide +kernel
theorem dM_within_98 : decode cM_within 98 = .ok (.iconst 1, 1) := by decide +kernel
theorem dM_within_99 : decode cM_within 99 = .ok (.goto 4, 3) := by decide +kernel
theorem dM_within_102 : decode cM_within 102 = .ok (.iconst 0, 1) := by decide +kernel
theorem dM_within_103 : decode cM_within 103 = .ok (.ireturn, 1) := by decide +kernel
theorem dM_part_0 : decode cM_part 0 = .ok (.aload_n 0, 1) := by decide +kernel
theorem dM_part_1 : decode cM_part 1 = .ok (.iconst 0, 1) := by decide +kernel
theorem dM_part_2 : decode cM_part 2 = .ok (.putfield 30, 3) := by decide +kernel
theorem dM_part_5 : decode cM_part 5 = .ok (.aload_n 0, 1) := by decide +kernel
theorem dM_part_6 : decode cM_part 6 = .ok (.iload_n 2, 1) := by decide +kernel
theorem dM_part_7 : decode cM_part 7 = .ok (.i2l, 1) := by decide +kernel
theorem dM_part_8 : decode cM_part 8 = .ok (.lconst 0, 1) := by decide +kernel
theorem dM_part_9 : decode cM_part 9 = .ok (.ldc2_w 75, 3) := by decide +kernel
theorem dM_part_12 : decode cM_part 12 = .ok (.invokestatic 36, 3) := by decide +kernel
theorem dM_part_15 : decode cM_part 15 = .ok (.ifCond .ne 7, 3) := by decide +kernel
theorem dM_part_18 : decode cM_part 18 = .ok (.iconst 1, 1) := by decide +kernel
theorem dM_part_19 : decode cM_part 19 = .ok (.goto 4, 3) := by decide +kernel
theorem dM_part_22 : decode cM_part 22 = .ok (.iconst 0, 1) := by decide +kernel
theorem dM_part_23 : decode cM_part 23 = .ok (.iconst 1, 1) := by decide +kernel
theorem dM_part_24 : decode cM_part 24 = .ok (.invokevirtual 48, 3) := by decide +kernel
theorem dM_part_27 : decode cM_part 27 = .ok (.ifCond .ne 23, 3) := by decide +kernel
theorem dM_part_30 : decode cM_part 30 = .ok (.aload_n 0, 1) := by decide +kernel
theorem dM_part_31 : decode cM_part 31 = .ok (.iload_n 1, 1) := by decide +kernel
theorem dM_part_32 : decode cM_part 32 = .ok (.invokestatic 52, 3) := by decide +kernel
theorem dM_part_35 : decode cM_part 35 = .ok (.ifCond .ne 7, 3) := by decide +kernel
theorem dM_part_38 : decode cM_part 38 = .ok (.iconst 1, 1) := by decide +kernel
theorem dM_part_39 : decode cM_part 39 = .ok (.goto 4, 3) := by decide +kernel
theorem dM_part_42 : decode cM_part 42 = .ok (.iconst 0, 1) := by decide +kernel
theorem dM_part_43 : decode cM_part 43 = .ok (.iconst 2, 1) := by decide +kernel
theorem dM_part_44 : decode cM_part 44 = .ok (.invokevirtual 48, 3) := by decide +kernel
theorem dM_part_47 : decode cM_part 47 = .ok (.ifCond .eq 5, 3) := by decide +kernel
theorem dM_part_50 : decode cM_part 50 = .ok (.iconst 0, 1) := by decide +kernel
theorem dM_part_51 : decode cM_part 51 = .ok (.ireturn, 1) := by decide +kernel
theorem dM_part_52 : decode cM_part 52 = .ok (.iload_n 2, 1) := by decide +kernel
theorem dM_part_53 : decode cM_part 53 = .ok (.ifCond .ne 13, 3) := by decide +kernel
theorem dM_part_56 : decode cM_part 56 = .ok (.aload_n 0, 1) := by decide +kernel
theorem dM_part_57 : decode cM_part 57 = .ok (.getfield 9, 3) := by decide +kernel
theorem dM_part_60 : decode cM_part 60 = .ok (.iload_n 1, 1) := by decide +kernel
theorem dM_part_61 : decode cM_part 61 = .ok (.laload, 1) := by decide +kernel
theorem dM_part_62 : decode cM_part 62 = .ok (.l2i, 1) := by decide +kernel
theorem dM_part_63 : decode cM_part 63 = .ok (.goto 75, 3) := by decide +kernel
theorem dM_part_66 : decode cM_part 66 = .ok (.iload_n 2, 1) := by decide +kernel
theorem dM_part_67 : decode cM_part 67 = .ok (.iconst 1, 1) := by decide +kernel
theorem dM_part_68 : decode cM_part 68 = .ok (.if_icmp .ne 13, 3) := by decide +kernel
theorem dM_part_71 : decode cM_part 71 = .ok (.aload_n 0, 1) := by decide +kernel
theorem dM_part_72 : decode cM_part 72 = .ok (.getfield 13, 3) := by decide +kernel
theorem dM_part_75 : decode cM_part 75 = .ok (.iload_n 1, 1) := by decide +kernel
theorem dM_part_76 : decode cM_part 76 = .ok (.laload, 1) := by decide +kernel
theorem dM_part_77 : decode cM_part 77 = .ok (.l2i, 1) := by decide +kernel
theorem dM_part_78 : decode cM_part 78 = .ok (.goto 60, 3) := by decide +kernel
theorem dM_part_81 : decode cM_part 81 = .ok (.iload_n 2, 1) := by decide +kernel
theorem dM_part_82 : decode cM_part 82 = .ok (.iconst 2, 1) := by decide +kernel
theorem dM_part_83 : decode cM_part 83 = .ok (.if_icmp .ne 13, 3) := by decide +kernel
theorem dM_part_86 : decode cM_part 86 = .ok (.aload_n 0, 1) := by decide +kernel
theorem dM_part_87 : decode cM_part 87 = .ok (.getfield 16, 3) := by decide +kernel
theorem dM_part_90 : decode cM_part 90 = .ok (.iload_n 1, 1) := by decide +kernel
theorem dM_part_91 : decode cM_part 91 = .ok (.laload, 1) := by decide +kernel
theorem dM_part_92 : decode cM_part 92 = .ok (.l2i, 1) := by decide +kernel
theorem dM_part_93 : decode cM_part 93 = .ok (.goto 45, 3) := by decide +kernel
theorem dM_part_96 : decode cM_part 96 = .ok (.iload_n 2, 1) := by decide +kernel
theorem dM_part_97 : decode cM_part 97 = .ok (.iconst 3, 1) := by decide +kernel
theorem dM_part_98 : decode cM_part 98 = .ok (.if_icmp .ne 12, 3) := by decide +kernel
theorem dM_part_101 : decode cM_part 101 = .ok (.aload_n 0, 1) := by decide +kernel
theorem dM_part_102 : decode cM_part 102 = .ok (.getfield 19, 3) := by decide +kernel
theorem dM_part_105 : decode cM_part 105 = .ok (.iload_n 1, 1) := by decide +kernel
theorem dM_part_106 : decode cM_part 106 = .ok (.iaload, 1) := by decide +kernel
theorem dM_part_107 : decode cM_part 107 = .ok (.goto 31, 3) := by decide +kernel
theorem dM_part_110 : decode cM_part 110 = .ok (.iload_n 2, 1) := by decide +kernel
theorem dM_part_111 : decode cM_part 111 = .ok (.iconst 4, 1) := by decide +kernel
theorem dM_part_112 : decode cM_part 112 = .ok (.if_icmp .ne 12, 3) := by decide +kernel
theorem dM_part_115 : decode cM_part 115 = .ok (.aload_n 0, 1) := by decide +kernel
theorem dM_part_116 : decode cM_part 116 = .ok (.getfield 23, 3) := by decide +kernel
theorem dM_part_119 : decode cM_part 119 = .ok (.iload_n 1, 1) := by decide +kernel
theorem dM_part_120 : decode cM_part 120 = .ok (.iaload, 1) := by decide +kernel
theorem dM_part_121 : decode cM_part 121 = .ok (.goto 17, 3) := by decide +kernel
theorem dM_part_124 : decode cM_part 124 = .ok (.aload_n 0, 1) := by decide +kernel
theorem dM_part_125 : decode cM_part 125 = .ok (.getfield 26, 3) := by decide +kernel
theorem dM_part_128 : decode cM_part 128 = .ok (.iload_n 1, 1) := by decide +kernel
theorem dM_part_129 : decode cM_part 129 = .ok (.baload, 1) := by decide +kernel
theorem dM_part_130 : decode cM_part 130 = .ok (.ifCond .eq 7, 3) := by decide +kernel
theorem dM_part_133 : decode cM_part 133 = .ok (.iconst 1, 1) := by decide +kernel
theorem dM_part_134 : decode cM_part 134 = .ok (.goto 4, 3) := by decide +kernel
theorem dM_part_137 : decode cM_part 137 = .ok (.iconst 0, 1) := by decide +kernel
theorem dM_part_138 : decode cM_part 138 = .ok (.ireturn, 1) := by decide +kernel
theorem dM_count_0 : decode cM_count 0 = .ok (.aload_n 0, 1) := by decide +kernel
theorem dM_count_1 : decode cM_count 1 = .ok (.iconst 0, 1) := by decide +kernel
theorem dM_count_2 : decode cM_count 2 = .ok (.putfield 30, 3) := by decide +kernel
theorem dM_count_5 : decode cM_count 5 = .ok (.iconst 0, 1) := by decide +kernel
theorem dM_count_6 : decode cM_count 6 = .ok (.istore_n 3, 1) := by decide +kernel
theorem dM_count_7 : decode cM_count 7 = .ok (.iconst 0, 1) := by decide +kernel
theorem dM_count_8 : decode cM_count 8 = .ok (.istore 4, 2) := by decide +kernel
theorem dM_count_10 : decode cM_count 10 = .ok (.iload 4, 2) := by decide +kernel
theorem dM_count_12 : decode cM_count 12 = .ok (.bipush 16, 2) := by decide +kernel
theorem dM_count_14 : decode cM_count 14 = .ok (.if_icmp .ge 55, 3) := by decide +kernel
theorem dM_count_17 : decode cM_count 17 = .ok (.aload_n 0, 1) := by decide +kernel
theorem dM_count_18 : decode cM_count 18 = .ok (.getfield 26, 3) := by decide +kernel
theorem dM_count_21 : decode cM_count 21 = .ok (.iload 4, 2) := by decide +kernel
theorem dM_count_23 : decode cM_count 23 = .ok (.baload, 1) := by decide +kernel
theorem dM_count_24 : decode cM_count 24 = .ok (.ifCond .eq 39, 3) := by decide +kernel
theorem dM_count_27 : decode cM_count 27 = .ok (.aload_n 0, 1) := by decide +kernel
theorem dM_count_28 : decode cM_count 28 = .ok (.iload 4, 2) := by decide +kernel
theorem dM_count_30 : decode cM_count 30 = .ok (.invokevirtual 60, 3) := by decide +kernel
theorem dM_count_33 : decode cM_count 33 = .ok (.ifCond .ne 30, 3) := by decide +kernel
theorem dM_count_36 : decode cM_count 36 = .ok (.aload_n 0, 1) := by decide +kernel
theorem dM_count_37 : decode cM_count 37 = .ok (.iload 4, 2) := by decide +kernel
theorem dM_count_39 : decode cM_count 39 = .ok (.iload_n 2, 1) := by decide +kernel
theorem dM_count_40 : decode cM_count 40 = .ok (.invokevirtual 63, 3) := by decide +kernel
theorem dM_count_43 : decode cM_count 43 = .ok (.ifCond .eq 20, 3) := by decide +kernel
theorem dM_count_46 : decode cM_count 46 = .ok (.aload_n 0, 1) := by decide +kernel
theorem dM_count_47 : decode cM_count 47 = .ok (.iload 4, 2) := by decide +kernel
theorem dM_count_49 : decode cM_count 49 = .ok (.iload_n 1, 1) := by decide +kernel
theorem dM_count_50 : decode cM_count 50 = .ok (.invokestatic 42, 3) := by decide +kernel
theorem dM_count_53 : decode cM_count 53 = .ok (.lconst 1, 1) := by decide +kernel
theorem dM_count_54 : decode cM_count 54 = .ok (.invokevirtual 67, 3) := by decide +kernel
theorem dM_count_57 : decode cM_count 57 = .ok (.ifCond .eq 6, 3) := by decide +kernel
theorem dM_count_60 : decode cM_count 60 = .ok (.iinc 3 1, 3) := by decide +kernel
theorem dM_count_63 : decode cM_count 63 = .ok (.iinc 4 1, 3) := by decide +kernel
theorem dM_count_66 : decode cM_count 66 = .ok (.goto (-56), 3) := by decide +kernel
theorem dM_count_69 : decode cM_count 69 = .ok (.iload_n 3, 1) := by decide +kernel
theorem dM_count_70 : decode cM_count 70 = .ok (.ireturn, 1) := by decide +kernel
