/-! Rows that decode each instruction. Laid by program. -/
theorem dX_init_0 : decode cX_init 0 = .ok (.aload_n 0, 1) := by decide +kernel
theorem dX_init_1 : decode cX_init 1 = .ok (.invokespecial 1, 3) := by decide +kernel
theorem dX_init_4 : decode cX_init 4 = .ok (.aload_n 0, 1) := by decide +kernel
theorem dX_init_5 : decode cX_init 5 = .ok (.bipush 16, 2) := by decide +kernel
theorem dX_init_7 : decode cX_init 7 = .ok (.newarray .int, 2) := by decide +kernel
theorem dX_init_9 : decode cX_init 9 = .ok (.putfield 9, 3) := by decide +kernel
theorem dX_init_12 : decode cX_init 12 = .ok (.aload_n 0, 1) := by decide +kernel
theorem dX_init_13 : decode cX_init 13 = .ok (.bipush 16, 2) := by decide +kernel
theorem dX_init_15 : decode cX_init 15 = .ok (.newarray .int, 2) := by decide +kernel
theorem dX_init_17 : decode cX_init 17 = .ok (.putfield 13, 3) := by decide +kernel
theorem dX_init_20 : decode cX_init 20 = .ok (.aload_n 0, 1) := by decide +kernel
theorem dX_init_21 : decode cX_init 21 = .ok (.bipush 16, 2) := by decide +kernel
theorem dX_init_23 : decode cX_init 23 = .ok (.newarray .int, 2) := by decide +kernel
theorem dX_init_25 : decode cX_init 25 = .ok (.putfield 16, 3) := by decide +kernel
theorem dX_init_28 : decode cX_init 28 = .ok (.aload_n 0, 1) := by decide +kernel
theorem dX_init_29 : decode cX_init 29 = .ok (.bipush 16, 2) := by decide +kernel
theorem dX_init_31 : decode cX_init 31 = .ok (.newarray .int, 2) := by decide +kernel
theorem dX_init_33 : decode cX_init 33 = .ok (.putfield 19, 3) := by decide +kernel
theorem dX_init_36 : decode cX_init 36 = .ok (.aload_n 0, 1) := by decide +kernel
theorem dX_init_37 : decode cX_init 37 = .ok (.bipush 16, 2) := by decide +kernel
theorem dX_init_39 : decode cX_init 39 = .ok (.newarray .int, 2) := by decide +kernel
theorem dX_init_41 : decode cX_init 41 = .ok (.putfield 22, 3) := by decide +kernel
theorem dX_init_44 : decode cX_init 44 = .ok (.aload_n 0, 1) := by decide +kernel
theorem dX_init_45 : decode cX_init 45 = .ok (.bipush 16, 2) := by decide +kernel
theorem dX_init_47 : decode cX_init 47 = .ok (.newarray .boolean, 2) := by decide +kernel
theorem dX_init_49 : decode cX_init 49 = .ok (.putfield 25, 3) := by decide +kernel
theorem dX_init_52 : decode cX_init 52 = .ok (.return_, 1) := by decide +kernel
theorem dX_root_0 : decode cX_root 0 = .ok (.iload_n 2, 1) := by decide +kernel
theorem dX_root_1 : decode cX_root 1 = .ok (.invokestatic 29, 3) := by decide +kernel
theorem dX_root_4 : decode cX_root 4 = .ok (.iload_n 3, 1) := by decide +kernel
theorem dX_root_5 : decode cX_root 5 = .ok (.invokestatic 29, 3) := by decide +kernel
theorem dX_root_8 : decode cX_root 8 = .ok (.lcmp, 1) := by decide +kernel
theorem dX_root_9 : decode cX_root 9 = .ok (.ifCond .le 13, 3) := by decide +kernel
theorem dX_root_12 : decode cX_root 12 = .ok (.new 33, 3) := by decide +kernel
theorem dX_root_15 : decode cX_root 15 = .ok (.dup, 1) := by decide +kernel
theorem dX_root_16 : decode cX_root 16 = .ok (.ldc 35, 2) := by decide +kernel
theorem dX_root_18 : decode cX_root 18 = .ok (.invokespecial 37, 3) := by decide +kernel
theorem dX_root_21 : decode cX_root 21 = .ok (.athrow, 1) := by decide +kernel
theorem dX_root_22 : decode cX_root 22 = .ok (.iload 4, 2) := by decide +kernel
theorem dX_root_24 : decode cX_root 24 = .ok (.ifCond .lt 11, 3) := by decide +kernel
theorem dX_root_27 : decode cX_root 27 = .ok (.iload 4, 2) := by decide +kernel
theorem dX_root_29 : decode cX_root 29 = .ok (.sipush 255, 3) := by decide +kernel
theorem dX_root_32 : decode cX_root 32 = .ok (.if_icmp .le 13, 3) := by decide +kernel
theorem dX_root_35 : decode cX_root 35 = .ok (.new 33, 3) := by decide +kernel
theorem dX_root_38 : decode cX_root 38 = .ok (.dup, 1) := by decide +kernel
theorem dX_root_39 : decode cX_root 39 = .ok (.ldc 40, 2) := by decide +kernel
theorem dX_root_41 : decode cX_root 41 = .ok (.invokespecial 37, 3) := by decide +kernel
theorem dX_root_44 : decode cX_root 44 = .ok (.athrow, 1) := by decide +kernel
theorem dX_root_45 : decode cX_root 45 = .ok (.iload_n 1, 1) := by decide +kernel
theorem dX_root_46 : decode cX_root 46 = .ok (.invokestatic 42, 3) := by decide +kernel
theorem dX_root_49 : decode cX_root 49 = .ok (.aload_n 0, 1) := by decide +kernel
theorem dX_root_50 : decode cX_root 50 = .ok (.getfield 9, 3) := by decide +kernel
theorem dX_root_53 : decode cX_root 53 = .ok (.iload_n 1, 1) := by decide +kernel
theorem dX_root_54 : decode cX_root 54 = .ok (.iload_n 2, 1) := by decide +kernel
theorem dX_root_55 : decode cX_root 55 = .ok (.iastore, 1) := by decide +kernel
theorem dX_root_56 : decode cX_root 56 = .ok (.aload_n 0, 1) := by decide +kernel
theorem dX_root_57 : decode cX_root 57 = .ok (.getfield 13, 3) := by decide +kernel
theorem dX_root_60 : decode cX_root 60 = .ok (.iload_n 1, 1) := by decide +kernel
theorem dX_root_61 : decode cX_root 61 = .ok (.iload_n 2, 1) := by decide +kernel
theorem dX_root_62 : decode cX_root 62 = .ok (.iastore, 1) := by decide +kernel
theorem dX_root_63 : decode cX_root 63 = .ok (.aload_n 0, 1) := by decide +kernel
theorem dX_root_64 : decode cX_root 64 = .ok (.getfield 16, 3) := by decide +kernel
theorem dX_root_67 : decode cX_root 67 = .ok (.iload_n 1, 1) := by decide +kernel
theorem dX_root_68 : decode cX_root 68 = .ok (.iload_n 3, 1) := by decide +kernel
theorem dX_root_69 : decode cX_root 69 = .ok (.iastore, 1) := by decide +kernel
theorem dX_root_70 : decode cX_root 70 = .ok (.aload_n 0, 1) := by decide +kernel
theorem dX_root_71 : decode cX_root 71 = .ok (.getfield 19, 3) := by decide +kernel
theorem dX_root_74 : decode cX_root 74 = .ok (.iload_n 1, 1) := by decide +kernel
theorem dX_root_75 : decode cX_root 75 = .ok (.iload 4, 2) := by decide +kernel
theorem dX_root_77 : decode cX_root 77 = .ok (.iastore, 1) := by decide +kernel
theorem dX_root_78 : decode cX_root 78 = .ok (.aload_n 0, 1) := by decide +kernel
theorem dX_root_79 : decode cX_root 79 = .ok (.getfield 22, 3) := by decide +kernel
theorem dX_root_82 : decode cX_root 82 = .ok (.iload_n 1, 1) := by decide +kernel
theorem dX_root_83 : decode cX_root 83 = .ok (.iconst 0, 1) := by decide +kernel
theorem dX_root_84 : decode cX_root 84 = .ok (.iastore, 1) := by decide +kernel
theorem dX_root_85 : decode cX_root 85 = .ok (.aload_n 0, 1) := by decide +kernel
theorem dX_root_86 : decode cX_root 86 = .ok (.getfield 25, 3) := by decide +kernel
theorem dX_root_89 : decode cX_root 89 = .ok (.iload_n 1, 1) := by decide +kernel
theorem dX_root_90 : decode cX_root 90 = .ok (.iconst 1, 1) := by decide +kernel
theorem dX_root_91 : decode cX_root 91 = .ok (.bastore, 1) := by decide +kernel
theorem dX_root_92 : decode cX_root 92 = .ok (.return_, 1) := by decide +kernel
theorem dX_number_0 : decode cX_number 0 = .ok (.iload_n 1, 1) := by decide +kernel
theorem dX_number_1 : decode cX_number 1 = .ok (.invokestatic 42, 3) := by decide +kernel
theorem dX_number_4 : decode cX_number 4 = .ok (.aload_n 0, 1) := by decide +kernel
theorem dX_number_5 : decode cX_number 5 = .ok (.getfield 9, 3) := by decide +kernel
theorem dX_number_8 : decode cX_number 8 = .ok (.iload_n 1, 1) := by decide +kernel
theorem dX_number_9 : decode cX_number 9 = .ok (.iload_n 2, 1) := by decide +kernel
theorem dX_number_10 : decode cX_number 10 = .ok (.iastore, 1) := by decide +kernel
theorem dX_number_11 : decode cX_number 11 = .ok (.aload_n 0, 1) := by decide +kernel
theorem dX_number_12 : decode cX_number 12 = .ok (.getfield 13, 3) := by decide +kernel
theorem dX_number_15 : decode cX_number 15 = .ok (.iload_n 1, 1) := by decide +kernel
theorem dX_number_16 : decode cX_number 16 = .ok (.iconst 0, 1) := by decide +kernel
theorem dX_number_17 : decode cX_number 17 = .ok (.iastore, 1) := by decide +kernel
theorem dX_number_18 : decode cX_number 18 = .ok (.aload_n 0, 1) := by decide +kernel
theorem dX_number_19 : decode cX_number 19 = .ok (.getfield 16, 3) := by decide +kernel
theorem dX_number_22 : decode cX_number 22 = .ok (.iload_n 1, 1) := by decide +kernel
theorem dX_number_23 : decode cX_number 23 = .ok (.iconst 0, 1) := by decide +kernel
theorem dX_number_24 : decode cX_number 24 = .ok (.iastore, 1) := by decide +kernel
theorem dX_number_25 : decode cX_number 25 = .ok (.aload_n 0, 1) := by decide +kernel
theorem dX_number_26 : decode cX_number 26 = .ok (.getfield 19, 3) := by decide +kernel
theorem dX_number_29 : decode cX_number 29 = .ok (.iload_n 1, 1) := by decide +kernel
theorem dX_number_30 : decode cX_number 30 = .ok (.iconst 0, 1) := by decide +kernel
theorem dX_number_31 : decode cX_number 31 = .ok (.iastore, 1) := by decide +kernel
theorem dX_number_32 : decode cX_number 32 = .ok (.aload_n 0, 1) := by decide +kernel
theorem dX_number_33 : decode cX_number 33 = .ok (.getfield 22, 3) := by decide +kernel
theorem dX_number_36 : decode cX_number 36 = .ok (.iload_n 1, 1) := by decide +kernel
theorem dX_number_37 : decode cX_number 37 = .ok (.iconst 0, 1) := by decide +kernel
theorem dX_number_38 : decode cX_number 38 = .ok (.iastore, 1) := by decide +kernel
theorem dX_number_39 : decode cX_number 39 = .ok (.aload_n 0, 1) := by decide +kernel
theorem dX_number_40 : decode cX_number 40 = .ok (.getfield 25, 3) := by decide +kernel
theorem dX_number_43 : decode cX_number 43 = .ok (.iload_n 1, 1) := by decide +kernel
theorem dX_number_44 : decode cX_number 44 = .ok (.iconst 0, 1) := by decide +kernel
theorem dX_number_45 : decode cX_number 45 = .ok (.bastore, 1) := by decide +kernel
theorem dX_number_46 : decode cX_number 46 = .ok (.return_, 1) := by decide +kernel
theorem dX_move_0 : decode cX_move 0 = .ok (.iload_n 1, 1) := by decide +kernel
theorem dX_move_1 : decode cX_move 1 = .ok (.invokestatic 42, 3) := by decide +kernel
theorem dX_move_4 : decode cX_move 4 = .ok (.iload_n 2, 1) := by decide +kernel
theorem dX_move_5 : decode cX_move 5 = .ok (.invokestatic 42, 3) := by decide +kernel
theorem dX_move_8 : decode cX_move 8 = .ok (.aload_n 0, 1) := by decide +kernel
theorem dX_move_9 : decode cX_move 9 = .ok (.iload_n 2, 1) := by decide +kernel
theorem dX_move_10 : decode cX_move 10 = .ok (.invokevirtual 46, 3) := by decide +kernel
theorem dX_move_13 : decode cX_move 13 = .ok (.ifCond .eq 7, 3) := by decide +kernel
theorem dX_move_16 : decode cX_move 16 = .ok (.iload_n 3, 1) := by decide +kernel
theorem dX_move_17 : decode cX_move 17 = .ok (.ifCond .ne 7, 3) := by decide +kernel
theorem dX_move_20 : decode cX_move 20 = .ok (.iconst 1, 1) := by decide +kernel
theorem dX_move_21 : decode cX_move 21 = .ok (.goto 4, 3) := by decide +kernel
theorem dX_move_24 : decode cX_move 24 = .ok (.iconst 0, 1) := by decide +kernel
theorem dX_move_25 : decode cX_move 25 = .ok (.istore 4, 2) := by decide +kernel
theorem dX_move_27 : decode cX_move 27 = .ok (.aload_n 0, 1) := by decide +kernel
theorem dX_move_28 : decode cX_move 28 = .ok (.iload_n 1, 1) := by decide +kernel
theorem dX_move_29 : decode cX_move 29 = .ok (.iload_n 2, 1) := by decide +kernel
theorem dX_move_30 : decode cX_move 30 = .ok (.invokevirtual 50, 3) := by decide +kernel
theorem dX_move_33 : decode cX_move 33 = .ok (.aload_n 0, 1) := by decide +kernel
theorem dX_move_34 : decode cX_move 34 = .ok (.getfield 9, 3) := by decide +kernel
theorem dX_move_37 : decode cX_move 37 = .ok (.iload_n 1, 1) := by decide +kernel
theorem dX_move_38 : decode cX_move 38 = .ok (.dup2, 1) := by decide +kernel
theorem dX_move_39 : decode cX_move 39 = .ok (.iaload, 1) := by decide +kernel
theorem dX_move_40 : decode cX_move 40 = .ok (.iload_n 3, 1) := by decide +kernel
theorem dX_move_41 : decode cX_move 41 = .ok (.iadd, 1) := by decide +kernel
theorem dX_move_42 : decode cX_move 42 = .ok (.iastore, 1) := by decide +kernel
theorem dX_move_43 : decode cX_move 43 = .ok (.aload_n 0, 1) := by decide +kernel
theorem dX_move_44 : decode cX_move 44 = .ok (.getfield 25, 3) := by decide +kernel
theorem dX_move_47 : decode cX_move 47 = .ok (.iload_n 1, 1) := by decide +kernel
theorem dX_move_48 : decode cX_move 48 = .ok (.aload_n 0, 1) := by decide +kernel
theorem dX_move_49 : decode cX_move 49 = .ok (.getfield 25, 3) := by decide +kernel
theorem dX_move_52 : decode cX_move 52 = .ok (.iload_n 1, 1) := by decide +kernel
theorem dX_move_53 : decode cX_move 53 = .ok (.baload, 1) := by decide +kernel
theorem dX_move_54 : decode cX_move 54 = .ok (.ifCond .eq 12, 3) := by decide +kernel
theorem dX_move_57 : decode cX_move 57 = .ok (.iload 4, 2) := by decide +kernel
theorem dX_move_59 : decode cX_move 59 = .ok (.ifCond .eq 7, 3) := by decide +kernel
theorem dX_move_62 : decode cX_move 62 = .ok (.iconst 1, 1) := by decide +kernel
theorem dX_move_63 : decode cX_move 63 = .ok (.goto 4, 3) := by decide +kernel
theorem dX_move_66 : decode cX_move 66 = .ok (.iconst 0, 1) := by decide +kernel
theorem dX_move_67 : decode cX_move 67 = .ok (.bastore, 1) := by decide +kernel
theorem dX_move_68 : decode cX_move 68 = .ok (.return_, 1) := by decide +kernel
theorem dX_narrow_0 : decode cX_narrow 0 = .ok (.iload_n 1, 1) := by decide +kernel
theorem dX_narrow_1 : decode cX_narrow 1 = .ok (.invokestatic 42, 3) := by decide +kernel
theorem dX_narrow_4 : decode cX_narrow 4 = .ok (.iload_n 2, 1) := by decide +kernel
theorem dX_narrow_5 : decode cX_narrow 5 = .ok (.invokestatic 42, 3) := by decide +kernel
theorem dX_narrow_8 : decode cX_narrow 8 = .ok (.aload_n 0, 1) := by decide +kernel
theorem dX_narrow_9 : decode cX_narrow 9 = .ok (.iload_n 2, 1) := by decide +kernel
theorem dX_narrow_10 : decode cX_narrow 10 = .ok (.invokevirtual 46, 3) := by decide +kernel
theorem dX_narrow_13 : decode cX_narrow 13 = .ok (.ifCond .ne 25, 3) := by decide +kernel
theorem dX_narrow_16 : decode cX_narrow 16 = .ok (.aload_n 0, 1) := by decide +kernel
theorem dX_narrow_17 : decode cX_narrow 17 = .ok (.iload_n 2, 1) := by decide +kernel
theorem dX_narrow_18 : decode cX_narrow 18 = .ok (.aload_n 0, 1) := by decide +kernel
theorem dX_narrow_19 : decode cX_narrow 19 = .ok (.getfield 9, 3) := by decide +kernel
theorem dX_narrow_22 : decode cX_narrow 22 = .ok (.iload_n 2, 1) := by decide +kernel
theorem dX_narrow_23 : decode cX_narrow 23 = .ok (.iaload, 1) := by decide +kernel
theorem dX_narrow_24 : decode cX_narrow 24 = .ok (.iload_n 3, 1) := by decide +kernel
theorem dX_narrow_25 : decode cX_narrow 25 = .ok (.invokestatic 29, 3) := by decide +kernel
theorem dX_narrow_28 : decode cX_narrow 28 = .ok (.invokevirtual 54, 3) := by decide +kernel
theorem dX_narrow_31 : decode cX_narrow 31 = .ok (.ifCond .eq 7, 3) := by decide +kernel
theorem dX_narrow_34 : decode cX_narrow 34 = .ok (.iconst 1, 1) := by decide +kernel
theorem dX_narrow_35 : decode cX_narrow 35 = .ok (.goto 4, 3) := by decide +kernel
theorem dX_narrow_38 : decode cX_narrow 38 = .ok (.iconst 0, 1) := by decide +kernel
theorem dX_narrow_39 : decode cX_narrow 39 = .ok (.istore 4, 2) := by decide +kernel
theorem dX_narrow_41 : decode cX_narrow 41 = .ok (.aload_n 0, 1) := by decide +kernel
theorem dX_narrow_42 : decode cX_narrow 42 = .ok (.iload_n 1, 1) := by decide +kernel
theorem dX_narrow_43 : decode cX_narrow 43 = .ok (.iload_n 2, 1) := by decide +kernel
theorem dX_narrow_44 : decode cX_narrow 44 = .ok (.invokevirtual 50, 3) := by decide +kernel
theorem dX_narrow_47 : decode cX_narrow 47 = .ok (.aload_n 0, 1) := by decide +kernel
theorem dX_narrow_48 : decode cX_narrow 48 = .ok (.getfield 13, 3) := by decide +kernel
theorem dX_narrow_51 : decode cX_narrow 51 = .ok (.iload_n 1, 1) := by decide +kernel
theorem dX_narrow_52 : decode cX_narrow 52 = .ok (.aload_n 0, 1) := by decide +kernel
theorem dX_narrow_53 : decode cX_narrow 53 = .ok (.getfield 9, 3) := by decide +kernel
theorem dX_narrow_56 : decode cX_narrow 56 = .ok (.iload_n 1, 1) := by decide +kernel
theorem dX_narrow_57 : decode cX_narrow 57 = .ok (.iaload, 1) := by decide +kernel
theorem dX_narrow_58 : decode cX_narrow 58 = .ok (.iastore, 1) := by decide +kernel
theorem dX_narrow_59 : decode cX_narrow 59 = .ok (.aload_n 0, 1) := by decide +kernel
theorem dX_narrow_60 : decode cX_narrow 60 = .ok (.getfield 16, 3) := by decide +kernel
theorem dX_narrow_63 : decode cX_narrow 63 = .ok (.iload_n 1, 1) := by decide +kernel
theorem dX_narrow_64 : decode cX_narrow 64 = .ok (.aload_n 0, 1) := by decide +kernel
theorem dX_narrow_65 : decode cX_narrow 65 = .ok (.getfield 9, 3) := by decide +kernel
theorem dX_narrow_68 : decode cX_narrow 68 = .ok (.iload_n 1, 1) := by decide +kernel
theorem dX_narrow_69 : decode cX_narrow 69 = .ok (.iaload, 1) := by decide +kernel
theorem dX_narrow_70 : decode cX_narrow 70 = .ok (.iload_n 3, 1) := by decide +kernel
theorem dX_narrow_71 : decode cX_narrow 71 = .ok (.iadd, 1) := by decide +kernel
theorem dX_narrow_72 : decode cX_narrow 72 = .ok (.iastore, 1) := by decide +kernel
theorem dX_narrow_73 : decode cX_narrow 73 = .ok (.aload_n 0, 1) := by decide +kernel
theorem dX_narrow_74 : decode cX_narrow 74 = .ok (.getfield 25, 3) := by decide +kernel
theorem dX_narrow_77 : decode cX_narrow 77 = .ok (.iload_n 1, 1) := by decide +kernel
theorem dX_narrow_78 : decode cX_narrow 78 = .ok (.aload_n 0, 1) := by decide +kernel
theorem dX_narrow_79 : decode cX_narrow 79 = .ok (.getfield 25, 3) := by decide +kernel
theorem dX_narrow_82 : decode cX_narrow 82 = .ok (.iload_n 1, 1) := by decide +kernel
theorem dX_narrow_83 : decode cX_narrow 83 = .ok (.baload, 1) := by decide +kernel
theorem dX_narrow_84 : decode cX_narrow 84 = .ok (.ifCond .eq 12, 3) := by decide +kernel
theorem dX_narrow_87 : decode cX_narrow 87 = .ok (.iload 4, 2) := by decide +kernel
theorem dX_narrow_89 : decode cX_narrow 89 = .ok (.ifCond .eq 7, 3) := by decide +kernel
theorem dX_narrow_92 : decode cX_narrow 92 = .ok (.iconst 1, 1) := by decide +kernel
theorem dX_narrow_93 : decode cX_narrow 93 = .ok (.goto 4, 3) := by decide +kernel
theorem dX_narrow_96 : decode cX_narrow 96 = .ok (.iconst 0, 1) := by decide +kernel
theorem dX_narrow_97 : decode cX_narrow 97 = .ok (.bastore, 1) := by decide +kernel
theorem dX_narrow_98 : decode cX_narrow 98 = .ok (.aload_n 0, 1) := by decide +kernel
theorem dX_narrow_99 : decode cX_narrow 99 = .ok (.getfield 25, 3) := by decide +kernel
theorem dX_narrow_102 : decode cX_narrow 102 = .ok (.iload_n 1, 1) := by decide +kernel
theorem dX_narrow_103 : decode cX_narrow 103 = .ok (.baload, 1) := by decide +kernel
theorem dX_narrow_104 : decode cX_narrow 104 = .ok (.ireturn, 1) := by decide +kernel
theorem dX_restrict_0 : decode cX_restrict 0 = .ok (.iload_n 1, 1) := by decide +kernel
theorem dX_restrict_1 : decode cX_restrict 1 = .ok (.invokestatic 42, 3) := by decide +kernel
theorem dX_restrict_4 : decode cX_restrict 4 = .ok (.iload_n 2, 1) := by decide +kernel
theorem dX_restrict_5 : decode cX_restrict 5 = .ok (.invokestatic 42, 3) := by decide +kernel
theorem dX_restrict_8 : decode cX_restrict 8 = .ok (.aload_n 0, 1) := by decide +kernel
theorem dX_restrict_9 : decode cX_restrict 9 = .ok (.getfield 19, 3) := by decide +kernel
theorem dX_restrict_12 : decode cX_restrict 12 = .ok (.iload_n 2, 1) := by decide +kernel
theorem dX_restrict_13 : decode cX_restrict 13 = .ok (.iaload, 1) := by decide +kernel
theorem dX_restrict_14 : decode cX_restrict 14 = .ok (.iload_n 3, 1) := by decide +kernel
theorem dX_restrict_15 : decode cX_restrict 15 = .ok (.iand, 1) := by decide +kernel
theorem dX_restrict_16 : decode cX_restrict 16 = .ok (.istore 4, 2) := by decide +kernel
theorem dX_restrict_18 : decode cX_restrict 18 = .ok (.aload_n 0, 1) := by decide +kernel
theorem dX_restrict_19 : decode cX_restrict 19 = .ok (.iload_n 2, 1) := by decide +kernel
theorem dX_restrict_20 : decode cX_restrict 20 = .ok (.invokevirtual 46, 3) := by decide +kernel
theorem dX_restrict_23 : decode cX_restrict 23 = .ok (.ifCond .eq 14, 3) := by decide +kernel
theorem dX_restrict_26 : decode cX_restrict 26 = .ok (.iload 4, 2) := by decide +kernel
theorem dX_restrict_28 : decode cX_restrict 28 = .ok (.aload_n 0, 1) := by decide +kernel
theorem dX_restrict_29 : decode cX_restrict 29 = .ok (.getfield 19, 3) := by decide +kernel
theorem dX_restrict_32 : decode cX_restrict 32 = .ok (.iload_n 2, 1) := by decide +kernel
theorem dX_restrict_33 : decode cX_restrict 33 = .ok (.iaload, 1) := by decide +kernel
theorem dX_restrict_34 : decode cX_restrict 34 = .ok (.if_icmp .ne 7, 3) := by decide +kernel
theorem dX_restrict_37 : decode cX_restrict 37 = .ok (.iconst 1, 1) := by decide +kernel
theorem dX_restrict_38 : decode cX_restrict 38 = .ok (.goto 4, 3) := by decide +kernel
theorem dX_restrict_41 : decode cX_restrict 41 = .ok (.iconst 0, 1) := by decide +kernel
theorem dX_restrict_42 : decode cX_restrict 42 = .ok (.istore 5, 2) := by decide +kernel
theorem dX_restrict_44 : decode cX_restrict 44 = .ok (.aload_n 0, 1) := by decide +kernel
theorem dX_restrict_45 : decode cX_restrict 45 = .ok (.iload_n 1, 1) := by decide +kernel
theorem dX_restrict_46 : decode cX_restrict 46 = .ok (.iload_n 2, 1) := by decide +kernel
theorem dX_restrict_47 : decode cX_restrict 47 = .ok (.invokevirtual 50, 3) := by decide +kernel
theorem dX_restrict_50 : decode cX_restrict 50 = .ok (.aload_n 0, 1) := by decide +kernel
theorem dX_restrict_51 : decode cX_restrict 51 = .ok (.getfield 19, 3) := by decide +kernel
theorem dX_restrict_54 : decode cX_restrict 54 = .ok (.iload_n 1, 1) := by decide +kernel
theorem dX_restrict_55 : decode cX_restrict 55 = .ok (.iload 4, 2) := by decide +kernel
theorem dX_restrict_57 : decode cX_restrict 57 = .ok (.iastore, 1) := by decide +kernel
theorem dX_restrict_58 : decode cX_restrict 58 = .ok (.aload_n 0, 1) := by decide +kernel
theorem dX_restrict_59 : decode cX_restrict 59 = .ok (.getfield 25, 3) := by decide +kernel
theorem dX_restrict_62 : decode cX_restrict 62 = .ok (.iload_n 1, 1) := by decide +kernel
theorem dX_restrict_63 : decode cX_restrict 63 = .ok (.aload_n 0, 1) := by decide +kernel
theorem dX_restrict_64 : decode cX_restrict 64 = .ok (.getfield 25, 3) := by decide +kernel
theorem dX_restrict_67 : decode cX_restrict 67 = .ok (.iload_n 1, 1) := by decide +kernel
theorem dX_restrict_68 : decode cX_restrict 68 = .ok (.baload, 1) := by decide +kernel
theorem dX_restrict_69 : decode cX_restrict 69 = .ok (.ifCond .eq 12, 3) := by decide +kernel
theorem dX_restrict_72 : decode cX_restrict 72 = .ok (.iload 5, 2) := by decide +kernel
theorem dX_restrict_74 : decode cX_restrict 74 = .ok (.ifCond .eq 7, 3) := by decide +kernel
theorem dX_restrict_77 : decode cX_restrict 77 = .ok (.iconst 1, 1) := by decide +kernel
theorem dX_restrict_78 : decode cX_restrict 78 = .ok (.goto 4, 3) := by decide +kernel
theorem dX_restrict_81 : decode cX_restrict 81 = .ok (.iconst 0, 1) := by decide +kernel
theorem dX_restrict_82 : decode cX_restrict 82 = .ok (.bastore, 1) := by decide +kernel
theorem dX_restrict_83 : decode cX_restrict 83 = .ok (.aload_n 0, 1) := by decide +kernel
theorem dX_restrict_84 : decode cX_restrict 84 = .ok (.getfield 25, 3) := by decide +kernel
theorem dX_restrict_87 : decode cX_restrict 87 = .ok (.iload_n 1, 1) := by decide +kernel
theorem dX_restrict_88 : decode cX_restrict 88 = .ok (.baload, 1) := by decide +kernel
theorem dX_restrict_89 : decode cX_restrict 89 = .ok (.ireturn, 1) := by decide +kernel
theorem dX_seal_0 : decode cX_seal 0 = .ok (.iload_n 1, 1) := by decide +kernel
theorem dX_seal_1 : decode cX_seal 1 = .ok (.invokestatic 42, 3) := by decide +kernel
theorem dX_seal_4 : decode cX_seal 4 = .ok (.iload_n 2, 1) := by decide +kernel
theorem dX_seal_5 : decode cX_seal 5 = .ok (.invokestatic 42, 3) := by decide +kernel
theorem dX_seal_8 : decode cX_seal 8 = .ok (.iload_n 3, 1) := by decide +kernel
theorem dX_seal_9 : decode cX_seal 9 = .ok (.invokestatic 42, 3) := by decide +kernel
theorem dX_seal_12 : decode cX_seal 12 = .ok (.aload_n 0, 1) := by decide +kernel
theorem dX_seal_13 : decode cX_seal 13 = .ok (.iload_n 2, 1) := by decide +kernel
theorem dX_seal_14 : decode cX_seal 14 = .ok (.iload_n 3, 1) := by decide +kernel
theorem dX_seal_15 : decode cX_seal 15 = .ok (.invokevirtual 58, 3) := by decide +kernel
theorem dX_seal_18 : decode cX_seal 18 = .ok (.istore 4, 2) := by decide +kernel
theorem dX_seal_20 : decode cX_seal 20 = .ok (.iload 4, 2) := by decide +kernel
theorem dX_seal_22 : decode cX_seal 22 = .ok (.ifCond .ne 25, 3) := by decide +kernel
theorem dX_seal_25 : decode cX_seal 25 = .ok (.aload_n 0, 1) := by decide +kernel
theorem dX_seal_26 : decode cX_seal 26 = .ok (.getfield 9, 3) := by decide +kernel
theorem dX_seal_29 : decode cX_seal 29 = .ok (.iload_n 3, 1) := by decide +kernel
theorem dX_seal_30 : decode cX_seal 30 = .ok (.iaload, 1) := by decide +kernel
theorem dX_seal_31 : decode cX_seal 31 = .ok (.istore 5, 2) := by decide +kernel
theorem dX_seal_33 : decode cX_seal 33 = .ok (.aload_n 0, 1) := by decide +kernel
theorem dX_seal_34 : decode cX_seal 34 = .ok (.iload_n 1, 1) := by decide +kernel
theorem dX_seal_35 : decode cX_seal 35 = .ok (.iload_n 2, 1) := by decide +kernel
theorem dX_seal_36 : decode cX_seal 36 = .ok (.invokevirtual 50, 3) := by decide +kernel
theorem dX_seal_39 : decode cX_seal 39 = .ok (.aload_n 0, 1) := by decide +kernel
theorem dX_seal_40 : decode cX_seal 40 = .ok (.getfield 22, 3) := by decide +kernel
theorem dX_seal_43 : decode cX_seal 43 = .ok (.iload_n 1, 1) := by decide +kernel
theorem dX_seal_44 : decode cX_seal 44 = .ok (.iload 5, 2) := by decide +kernel
theorem dX_seal_46 : decode cX_seal 46 = .ok (.iastore, 1) := by decide +kernel
theorem dX_seal_47 : decode cX_seal 47 = .ok (.iload 4, 2) := by decide +kernel
theorem dX_seal_49 : decode cX_seal 49 = .ok (.ireturn, 1) := by decide +kernel
theorem dX_unseal_0 : decode cX_unseal 0 = .ok (.iload_n 1, 1) := by decide +kernel
theorem dX_unseal_1 : decode cX_unseal 1 = .ok (.invokestatic 42, 3) := by decide +kernel
theorem dX_unseal_4 : decode cX_unseal 4 = .ok (.iload_n 2, 1) := by decide +kernel
theorem dX_unseal_5 : decode cX_unseal 5 = .ok (.invokestatic 42, 3) := by decide +kernel
theorem dX_unseal_8 : decode cX_unseal 8 = .ok (.iload_n 3, 1) := by decide +kernel
theorem dX_unseal_9 : decode cX_unseal 9 = .ok (.invokestatic 42, 3) := by decide +kernel
theorem dX_unseal_12 : decode cX_unseal 12 = .ok (.aload_n 0, 1) := by decide +kernel
theorem dX_unseal_13 : decode cX_unseal 13 = .ok (.iload_n 2, 1) := by decide +kernel
theorem dX_unseal_14 : decode cX_unseal 14 = .ok (.iload_n 3, 1) := by decide +kernel
theorem dX_unseal_15 : decode cX_unseal 15 = .ok (.invokevirtual 62, 3) := by decide +kernel
theorem dX_unseal_18 : decode cX_unseal 18 = .ok (.istore 4, 2) := by decide +kernel
theorem dX_unseal_20 : decode cX_unseal 20 = .ok (.iload 4, 2) := by decide +kernel
theorem dX_unseal_22 : decode cX_unseal 22 = .ok (.ifCond .ne 16, 3) := by decide +kernel
theorem dX_unseal_25 : decode cX_unseal 25 = .ok (.aload_n 0, 1) := by decide +kernel
theorem dX_unseal_26 : decode cX_unseal 26 = .ok (.iload_n 1, 1) := by decide +kernel
theorem dX_unseal_27 : decode cX_unseal 27 = .ok (.iload_n 2, 1) := by decide +kernel
theorem dX_unseal_28 : decode cX_unseal 28 = .ok (.invokevirtual 50, 3) := by decide +kernel
theorem dX_unseal_31 : decode cX_unseal 31 = .ok (.aload_n 0, 1) := by decide +kernel
theorem dX_unseal_32 : decode cX_unseal 32 = .ok (.getfield 22, 3) := by decide +kernel
theorem dX_unseal_35 : decode cX_unseal 35 = .ok (.iload_n 1, 1) := by decide +kernel
theorem dX_unseal_36 : decode cX_unseal 36 = .ok (.iconst 0, 1) := by decide +kernel
theorem dX_unseal_37 : decode cX_unseal 37 = .ok (.iastore, 1) := by decide +kernel
theorem dX_unseal_38 : decode cX_unseal 38 = .ok (.iload 4, 2) := by decide +kernel
theorem dX_unseal_40 : decode cX_unseal 40 = .ok (.ireturn, 1) := by decide +kernel
theorem dX_allows_0 : decode cX_allows 0 = .ok (.iload_n 3, 1) := by decide +kernel
theorem dX_allows_1 : decode cX_allows 1 = .ok (.ifCond .lt 9, 3) := by decide +kernel
theorem dX_allows_4 : decode cX_allows 4 = .ok (.iload_n 3, 1) := by decide +kernel
theorem dX_allows_5 : decode cX_allows 5 = .ok (.ldc 65, 2) := by decide +kernel
theorem dX_allows_7 : decode cX_allows 7 = .ok (.if_icmp .le 13, 3) := by decide +kernel
theorem dX_allows_10 : decode cX_allows 10 = .ok (.new 33, 3) := by decide +kernel
theorem dX_allows_13 : decode cX_allows 13 = .ok (.dup, 1) := by decide +kernel
theorem dX_allows_14 : decode cX_allows 14 = .ok (.ldc 66, 2) := by decide +kernel
theorem dX_allows_16 : decode cX_allows 16 = .ok (.invokespecial 37, 3) := by decide +kernel
theorem dX_allows_19 : decode cX_allows 19 = .ok (.athrow, 1) := by decide +kernel
theorem dX_allows_20 : decode cX_allows 20 = .ok (.iload_n 1, 1) := by decide +kernel
theorem dX_allows_21 : decode cX_allows 21 = .ok (.invokestatic 42, 3) := by decide +kernel
theorem dX_allows_24 : decode cX_allows 24 = .ok (.aload_n 0, 1) := by decide +kernel
theorem dX_allows_25 : decode cX_allows 25 = .ok (.iload_n 1, 1) := by decide +kernel
theorem dX_allows_26 : decode cX_allows 26 = .ok (.aload_n 0, 1) := by decide +kernel
theorem dX_allows_27 : decode cX_allows 27 = .ok (.getfield 9, 3) := by decide +kernel
theorem dX_allows_30 : decode cX_allows 30 = .ok (.iload_n 1, 1) := by decide +kernel
theorem dX_allows_31 : decode cX_allows 31 = .ok (.iaload, 1) := by decide +kernel
theorem dX_allows_32 : decode cX_allows 32 = .ok (.iload_n 2, 1) := by decide +kernel
theorem dX_allows_33 : decode cX_allows 33 = .ok (.iadd, 1) := by decide +kernel
theorem dX_allows_34 : decode cX_allows 34 = .ok (.iload_n 3, 1) := by decide +kernel
theorem dX_allows_35 : decode cX_allows 35 = .ok (.iload 4, 2) := by decide +kernel
theorem dX_allows_37 : decode cX_allows 37 = .ok (.invokevirtual 68, 3) := by decide +kernel
theorem dX_allows_40 : decode cX_allows 40 = .ok (.ireturn, 1) := by decide +kernel
theorem dX_within_0 : decode cX_within 0 = .ok (.iload_n 1, 1) := by decide +kernel
theorem dX_within_1 : decode cX_within 1 = .ok (.invokestatic 42, 3) := by decide +kernel
theorem dX_within_4 : decode cX_within 4 = .ok (.iload_n 2, 1) := by decide +kernel
theorem dX_within_5 : decode cX_within 5 = .ok (.invokestatic 42, 3) := by decide +kernel
theorem dX_within_8 : decode cX_within 8 = .ok (.aload_n 0, 1) := by decide +kernel
theorem dX_within_9 : decode cX_within 9 = .ok (.getfield 25, 3) := by decide +kernel
theorem dX_within_12 : decode cX_within 12 = .ok (.iload_n 1, 1) := by decide +kernel
theorem dX_within_13 : decode cX_within 13 = .ok (.baload, 1) := by decide +kernel
theorem dX_within_14 : decode cX_within 14 = .ok (.ifCond .eq 74, 3) := by decide +kernel
theorem dX_within_17 : decode cX_within 17 = .ok (.aload_n 0, 1) := by decide +kernel
theorem dX_within_18 : decode cX_within 18 = .ok (.getfield 25, 3) := by decide +kernel
theorem dX_within_21 : decode cX_within 21 = .ok (.iload_n 2, 1) := by decide +kernel
theorem dX_within_22 : decode cX_within 22 = .ok (.baload, 1) := by decide +kernel
theorem dX_within_23 : decode cX_within 23 = .ok (.ifCond .eq 65, 3) := by decide +kernel
theorem dX_within_26 : decode cX_within 26 = .ok (.aload_n 0, 1) := by decide +kernel
theorem dX_within_27 : decode cX_within 27 = .ok (.getfield 13, 3) := by decide +kernel
theorem dX_within_30 : decode cX_within 30 = .ok (.iload_n 1, 1) := by decide +kernel
theorem dX_within_31 : decode cX_within 31 = .ok (.iaload, 1) := by decide +kernel
theorem dX_within_32 : decode cX_within 32 = .ok (.invokestatic 29, 3) := by decide +kernel
theorem dX_within_35 : decode cX_within 35 = .ok (.aload_n 0, 1) := by decide +kernel
theorem dX_within_36 : decode cX_within 36 = .ok (.getfield 13, 3) := by decide +kernel
theorem dX_within_39 : decode cX_within 39 = .ok (.iload_n 2, 1) := by decide +kernel
theorem dX_within_40 : decode cX_within 40 = .ok (.iaload, 1) := by decide +kernel
theorem dX_within_41 : decode cX_within 41 = .ok (.invokestatic 29, 3) := by decide +kernel
theorem dX_within_44 : decode cX_within 44 = .ok (.lcmp, 1) := by decide +kernel
theorem dX_within_45 : decode cX_within 45 = .ok (.ifCond .lt 43, 3) := by decide +kernel
theorem dX_within_48 : decode cX_within 48 = .ok (.aload_n 0, 1) := by decide +kernel
theorem dX_within_49 : decode cX_within 49 = .ok (.getfield 16, 3) := by decide +kernel
theorem dX_within_52 : decode cX_within 52 = .ok (.iload_n 1, 1) := by decide +kernel
theorem dX_within_53 : decode cX_within 53 = .ok (.iaload, 1) := by decide +kernel
theorem dX_within_54 : decode cX_within 54 = .ok (.invokestatic 29, 3) := by decide +kernel
theorem dX_within_57 : decode cX_within 57 = .ok (.aload_n 0, 1) := by decide +kernel
theorem dX_within_58 : decode cX_within 58 = .ok (.getfield 16, 3) := by decide +kernel
theorem dX_within_61 : decode cX_within 61 = .ok (.iload_n 2, 1) := by decide +kernel
theorem dX_within_62 : decode cX_within 62 = .ok (.iaload, 1) := by decide +kernel
theorem dX_within_63 : decode cX_within 63 = .ok (.invokestatic 29, 3) := by decide +kernel
theorem dX_within_66 : decode cX_within 66 = .ok (.lcmp, 1) := by decide +kernel
theorem dX_within_67 : decode cX_within 67 = .ok (.ifCond .gt 21, 3) := by decide +kernel
theorem dX_within_70 : decode cX_within 70 = .ok (.aload_n 0, 1) := by decide +kernel
theorem dX_within_71 : decode cX_within 71 = .ok (.iload_n 2, 1) := by decide +kernel
theorem dX_within_72 : decode cX_within 72 = .ok (.aload_n 0, 1) := by decide +kernel
theorem dX_within_73 : decode cX_within 73 = .ok (.getfield 19, 3) := by decide +kernel
theorem dX_within_76 : decode cX_within 76 = .ok (.iload_n 1, 1) := by decide +kernel
theorem dX_within_77 : decode cX_within 77 = .ok (.iaload, 1) := by decide +kernel
theorem dX_within_78 : decode cX_within 78 = .ok (.invokevirtual 72, 3) := by decide +kernel
theorem dX_within_81 : decode cX_within 81 = .ok (.ifCond .eq 7, 3) := by decide +kernel
theorem dX_within_84 : decode cX_within 84 = .ok (.iconst 1, 1) := by decide +kernel
theorem dX_within_85 : decode cX_within 85 = .ok (.goto 4, 3) := by decide +kernel
theorem dX_within_88 : decode cX_within 88 = .ok (.iconst 0, 1) := by decide +kernel
theorem dX_within_89 : decode cX_within 89 = .ok (.ireturn, 1) := by decide +kernel
theorem dX_part_0 : decode cX_part 0 = .ok (.iload_n 2, 1) := by decide +kernel
theorem dX_part_1 : decode cX_part 1 = .ok (.ifCond .lt 8, 3) := by decide +kernel
theorem dX_part_4 : decode cX_part 4 = .ok (.iload_n 2, 1) := by decide +kernel
theorem dX_part_5 : decode cX_part 5 = .ok (.iconst 5, 1) := by decide +kernel
theorem dX_part_6 : decode cX_part 6 = .ok (.if_icmp .le 13, 3) := by decide +kernel
theorem dX_part_9 : decode cX_part 9 = .ok (.new 33, 3) := by decide +kernel
theorem dX_part_12 : decode cX_part 12 = .ok (.dup, 1) := by decide +kernel
theorem dX_part_13 : decode cX_part 13 = .ok (.ldc 76, 2) := by decide +kernel
theorem dX_part_15 : decode cX_part 15 = .ok (.invokespecial 37, 3) := by decide +kernel
theorem dX_part_18 : decode cX_part 18 = .ok (.athrow, 1) := by decide +kernel
theorem dX_part_19 : decode cX_part 19 = .ok (.iload_n 1, 1) := by decide +kernel
theorem dX_part_20 : decode cX_part 20 = .ok (.invokestatic 42, 3) := by decide +kernel
theorem dX_part_23 : decode cX_part 23 = .ok (.iload_n 2, 1) := by decide +kernel
theorem dX_part_24 : decode cX_part 24 = .ok (.tableswitch 71 0 4 #[36, 43, 50, 57, 64], 36) := by decide +kernel
theorem dX_part_60 : decode cX_part 60 = .ok (.aload_n 0, 1) := by decide +kernel
theorem dX_part_61 : decode cX_part 61 = .ok (.getfield 9, 3) := by decide +kernel
theorem dX_part_64 : decode cX_part 64 = .ok (.iload_n 1, 1) := by decide +kernel
theorem dX_part_65 : decode cX_part 65 = .ok (.iaload, 1) := by decide +kernel
theorem dX_part_66 : decode cX_part 66 = .ok (.ireturn, 1) := by decide +kernel
theorem dX_part_67 : decode cX_part 67 = .ok (.aload_n 0, 1) := by decide +kernel
theorem dX_part_68 : decode cX_part 68 = .ok (.getfield 13, 3) := by decide +kernel
theorem dX_part_71 : decode cX_part 71 = .ok (.iload_n 1, 1) := by decide +kernel
theorem dX_part_72 : decode cX_part 72 = .ok (.iaload, 1) := by decide +kernel
theorem dX_part_73 : decode cX_part 73 = .ok (.ireturn, 1) := by decide +kernel
theorem dX_part_74 : decode cX_part 74 = .ok (.aload_n 0, 1) := by decide +kernel
theorem dX_part_75 : decode cX_part 75 = .ok (.getfield 16, 3) := by decide +kernel
theorem dX_part_78 : decode cX_part 78 = .ok (.iload_n 1, 1) := by decide +kernel
theorem dX_part_79 : decode cX_part 79 = .ok (.iaload, 1) := by decide +kernel
theorem dX_part_80 : decode cX_part 80 = .ok (.ireturn, 1) := by decide +kernel
theorem dX_part_81 : decode cX_part 81 = .ok (.aload_n 0, 1) := by decide +kernel
theorem dX_part_82 : decode cX_part 82 = .ok (.getfield 19, 3) := by decide +kernel
theorem dX_part_85 : decode cX_part 85 = .ok (.iload_n 1, 1) := by decide +kernel
theorem dX_part_86 : decode cX_part 86 = .ok (.iaload, 1) := by decide +kernel
theorem dX_part_87 : decode cX_part 87 = .ok (.ireturn, 1) := by decide +kernel
theorem dX_part_88 : decode cX_part 88 = .ok (.aload_n 0, 1) := by decide +kernel
theorem dX_part_89 : decode cX_part 89 = .ok (.getfield 22, 3) := by decide +kernel
theorem dX_part_92 : decode cX_part 92 = .ok (.iload_n 1, 1) := by decide +kernel
theorem dX_part_93 : decode cX_part 93 = .ok (.iaload, 1) := by decide +kernel
theorem dX_part_94 : decode cX_part 94 = .ok (.ireturn, 1) := by decide +kernel
theorem dX_part_95 : decode cX_part 95 = .ok (.aload_n 0, 1) := by decide +kernel
theorem dX_part_96 : decode cX_part 96 = .ok (.getfield 25, 3) := by decide +kernel
theorem dX_part_99 : decode cX_part 99 = .ok (.iload_n 1, 1) := by decide +kernel
theorem dX_part_100 : decode cX_part 100 = .ok (.baload, 1) := by decide +kernel
theorem dX_part_101 : decode cX_part 101 = .ok (.ifCond .eq 7, 3) := by decide +kernel
theorem dX_part_104 : decode cX_part 104 = .ok (.iconst 1, 1) := by decide +kernel
theorem dX_part_105 : decode cX_part 105 = .ok (.goto 4, 3) := by decide +kernel
theorem dX_part_108 : decode cX_part 108 = .ok (.iconst 0, 1) := by decide +kernel
theorem dX_part_109 : decode cX_part 109 = .ok (.ireturn, 1) := by decide +kernel
theorem dX_count_0 : decode cX_count 0 = .ok (.iconst 0, 1) := by decide +kernel
theorem dX_count_1 : decode cX_count 1 = .ok (.istore_n 3, 1) := by decide +kernel
theorem dX_count_2 : decode cX_count 2 = .ok (.iconst 0, 1) := by decide +kernel
theorem dX_count_3 : decode cX_count 3 = .ok (.istore 4, 2) := by decide +kernel
theorem dX_count_5 : decode cX_count 5 = .ok (.iload 4, 2) := by decide +kernel
theorem dX_count_7 : decode cX_count 7 = .ok (.bipush 16, 2) := by decide +kernel
theorem dX_count_9 : decode cX_count 9 = .ok (.if_icmp .ge 24, 3) := by decide +kernel
theorem dX_count_12 : decode cX_count 12 = .ok (.aload_n 0, 1) := by decide +kernel
theorem dX_count_13 : decode cX_count 13 = .ok (.iload 4, 2) := by decide +kernel
theorem dX_count_15 : decode cX_count 15 = .ok (.iload_n 1, 1) := by decide +kernel
theorem dX_count_16 : decode cX_count 16 = .ok (.iconst 1, 1) := by decide +kernel
theorem dX_count_17 : decode cX_count 17 = .ok (.iload_n 2, 1) := by decide +kernel
theorem dX_count_18 : decode cX_count 18 = .ok (.invokevirtual 68, 3) := by decide +kernel
theorem dX_count_21 : decode cX_count 21 = .ok (.ifCond .ne 6, 3) := by decide +kernel
theorem dX_count_24 : decode cX_count 24 = .ok (.iinc 3 1, 3) := by decide +kernel
theorem dX_count_27 : decode cX_count 27 = .ok (.iinc 4 1, 3) := by decide +kernel
theorem dX_count_30 : decode cX_count 30 = .ok (.goto (-25), 3) := by decide +kernel
theorem dX_count_33 : decode cX_count 33 = .ok (.iload_n 3, 1) := by decide +kernel
theorem dX_count_34 : decode cX_count 34 = .ok (.ireturn, 1) := by decide +kernel
theorem dX_requireGrant_0 : decode cX_requireGrant 0 = .ok (.iload_n 0, 1) := by decide +kernel
theorem dX_requireGrant_1 : decode cX_requireGrant 1 = .ok (.ifCond .lt 9, 3) := by decide +kernel
theorem dX_requireGrant_4 : decode cX_requireGrant 4 = .ok (.iload_n 0, 1) := by decide +kernel
theorem dX_requireGrant_5 : decode cX_requireGrant 5 = .ok (.bipush 16, 2) := by decide +kernel
theorem dX_requireGrant_7 : decode cX_requireGrant 7 = .ok (.if_icmp .lt 13, 3) := by decide +kernel
theorem dX_requireGrant_10 : decode cX_requireGrant 10 = .ok (.new 78, 3) := by decide +kernel
theorem dX_requireGrant_13 : decode cX_requireGrant 13 = .ok (.dup, 1) := by decide +kernel
theorem dX_requireGrant_14 : decode cX_requireGrant 14 = .ok (.ldc 80, 2) := by decide +kernel
theorem dX_requireGrant_16 : decode cX_requireGrant 16 = .ok (.invokespecial 82, 3) := by decide +kernel
theorem dX_requireGrant_19 : decode cX_requireGrant 19 = .ok (.athrow, 1) := by decide +kernel
theorem dX_requireGrant_20 : decode cX_requireGrant 20 = .ok (.return_, 1) := by decide +kernel
theorem dX_unsigned_0 : decode cX_unsigned 0 = .ok (.iload_n 0, 1) := by decide +kernel
theorem dX_unsigned_1 : decode cX_unsigned 1 = .ok (.i2l, 1) := by decide +kernel
theorem dX_unsigned_2 : decode cX_unsigned 2 = .ok (.ldc2_w 83, 3) := by decide +kernel
theorem dX_unsigned_5 : decode cX_unsigned 5 = .ok (.land, 1) := by decide +kernel
theorem dX_unsigned_6 : decode cX_unsigned 6 = .ok (.lreturn, 1) := by decide +kernel
theorem dX_copy_0 : decode cX_copy 0 = .ok (.aload_n 0, 1) := by decide +kernel
theorem dX_copy_1 : decode cX_copy 1 = .ok (.getfield 9, 3) := by decide +kernel
theorem dX_copy_4 : decode cX_copy 4 = .ok (.iload_n 1, 1) := by decide +kernel
theorem dX_copy_5 : decode cX_copy 5 = .ok (.aload_n 0, 1) := by decide +kernel
theorem dX_copy_6 : decode cX_copy 6 = .ok (.getfield 9, 3) := by decide +kernel
theorem dX_copy_9 : decode cX_copy 9 = .ok (.iload_n 2, 1) := by decide +kernel
theorem dX_copy_10 : decode cX_copy 10 = .ok (.iaload, 1) := by decide +kernel
theorem dX_copy_11 : decode cX_copy 11 = .ok (.iastore, 1) := by decide +kernel
theorem dX_copy_12 : decode cX_copy 12 = .ok (.aload_n 0, 1) := by decide +kernel
theorem dX_copy_13 : decode cX_copy 13 = .ok (.getfield 13, 3) := by decide +kernel
theorem dX_copy_16 : decode cX_copy 16 = .ok (.iload_n 1, 1) := by decide +kernel
theorem dX_copy_17 : decode cX_copy 17 = .ok (.aload_n 0, 1) := by decide +kernel
theorem dX_copy_18 : decode cX_copy 18 = .ok (.getfield 13, 3) := by decide +kernel
theorem dX_copy_21 : decode cX_copy 21 = .ok (.iload_n 2, 1) := by decide +kernel
theorem dX_copy_22 : decode cX_copy 22 = .ok (.iaload, 1) := by decide +kernel
theorem dX_copy_23 : decode cX_copy 23 = .ok (.iastore, 1) := by decide +kernel
theorem dX_copy_24 : decode cX_copy 24 = .ok (.aload_n 0, 1) := by decide +kernel
theorem dX_copy_25 : decode cX_copy 25 = .ok (.getfield 16, 3) := by decide +kernel
theorem dX_copy_28 : decode cX_copy 28 = .ok (.iload_n 1, 1) := by decide +kernel
theorem dX_copy_29 : decode cX_copy 29 = .ok (.aload_n 0, 1) := by decide +kernel
theorem dX_copy_30 : decode cX_copy 30 = .ok (.getfield 16, 3) := by decide +kernel
theorem dX_copy_33 : decode cX_copy 33 = .ok (.iload_n 2, 1) := by decide +kernel
theorem dX_copy_34 : decode cX_copy 34 = .ok (.iaload, 1) := by decide +kernel
theorem dX_copy_35 : decode cX_copy 35 = .ok (.iastore, 1) := by decide +kernel
theorem dX_copy_36 : decode cX_copy 36 = .ok (.aload_n 0, 1) := by decide +kernel
theorem dX_copy_37 : decode cX_copy 37 = .ok (.getfield 19, 3) := by decide +kernel
theorem dX_copy_40 : decode cX_copy 40 = .ok (.iload_n 1, 1) := by decide +kernel
theorem dX_copy_41 : decode cX_copy 41 = .ok (.aload_n 0, 1) := by decide +kernel
theorem dX_copy_42 : decode cX_copy 42 = .ok (.getfield 19, 3) := by decide +kernel
theorem dX_copy_45 : decode cX_copy 45 = .ok (.iload_n 2, 1) := by decide +kernel
theorem dX_copy_46 : decode cX_copy 46 = .ok (.iaload, 1) := by decide +kernel
theorem dX_copy_47 : decode cX_copy 47 = .ok (.iastore, 1) := by decide +kernel
theorem dX_copy_48 : decode cX_copy 48 = .ok (.aload_n 0, 1) := by decide +kernel
theorem dX_copy_49 : decode cX_copy 49 = .ok (.getfield 22, 3) := by decide +kernel
theorem dX_copy_52 : decode cX_copy 52 = .ok (.iload_n 1, 1) := by decide +kernel
theorem dX_copy_53 : decode cX_copy 53 = .ok (.aload_n 0, 1) := by decide +kernel
theorem dX_copy_54 : decode cX_copy 54 = .ok (.getfield 22, 3) := by decide +kernel
theorem dX_copy_57 : decode cX_copy 57 = .ok (.iload_n 2, 1) := by decide +kernel
theorem dX_copy_58 : decode cX_copy 58 = .ok (.iaload, 1) := by decide +kernel
theorem dX_copy_59 : decode cX_copy 59 = .ok (.iastore, 1) := by decide +kernel
theorem dX_copy_60 : decode cX_copy 60 = .ok (.aload_n 0, 1) := by decide +kernel
theorem dX_copy_61 : decode cX_copy 61 = .ok (.getfield 25, 3) := by decide +kernel
theorem dX_copy_64 : decode cX_copy 64 = .ok (.iload_n 1, 1) := by decide +kernel
theorem dX_copy_65 : decode cX_copy 65 = .ok (.aload_n 0, 1) := by decide +kernel
theorem dX_copy_66 : decode cX_copy 66 = .ok (.getfield 25, 3) := by decide +kernel
theorem dX_copy_69 : decode cX_copy 69 = .ok (.iload_n 2, 1) := by decide +kernel
theorem dX_copy_70 : decode cX_copy 70 = .ok (.baload, 1) := by decide +kernel
theorem dX_copy_71 : decode cX_copy 71 = .ok (.bastore, 1) := by decide +kernel
theorem dX_copy_72 : decode cX_copy 72 = .ok (.return_, 1) := by decide +kernel
theorem dX_isSealed_0 : decode cX_isSealed 0 = .ok (.aload_n 0, 1) := by decide +kernel
theorem dX_isSealed_1 : decode cX_isSealed 1 = .ok (.getfield 22, 3) := by decide +kernel
theorem dX_isSealed_4 : decode cX_isSealed 4 = .ok (.iload_n 1, 1) := by decide +kernel
theorem dX_isSealed_5 : decode cX_isSealed 5 = .ok (.iaload, 1) := by decide +kernel
theorem dX_isSealed_6 : decode cX_isSealed 6 = .ok (.ifCond .eq 7, 3) := by decide +kernel
theorem dX_isSealed_9 : decode cX_isSealed 9 = .ok (.iconst 1, 1) := by decide +kernel
theorem dX_isSealed_10 : decode cX_isSealed 10 = .ok (.goto 4, 3) := by decide +kernel
theorem dX_isSealed_13 : decode cX_isSealed 13 = .ok (.iconst 0, 1) := by decide +kernel
theorem dX_isSealed_14 : decode cX_isSealed 14 = .ok (.ireturn, 1) := by decide +kernel
theorem dX_hasPermissions_0 : decode cX_hasPermissions 0 = .ok (.iload_n 2, 1) := by decide +kernel
theorem dX_hasPermissions_1 : decode cX_hasPermissions 1 = .ok (.aload_n 0, 1) := by decide +kernel
theorem dX_hasPermissions_2 : decode cX_hasPermissions 2 = .ok (.getfield 19, 3) := by decide +kernel
theorem dX_hasPermissions_5 : decode cX_hasPermissions 5 = .ok (.iload_n 1, 1) := by decide +kernel
theorem dX_hasPermissions_6 : decode cX_hasPermissions 6 = .ok (.iaload, 1) := by decide +kernel
theorem dX_hasPermissions_7 : decode cX_hasPermissions 7 = .ok (.iconst (-1), 1) := by decide +kernel
theorem dX_hasPermissions_8 : decode cX_hasPermissions 8 = .ok (.ixor, 1) := by decide +kernel
theorem dX_hasPermissions_9 : decode cX_hasPermissions 9 = .ok (.iand, 1) := by decide +kernel
theorem dX_hasPermissions_10 : decode cX_hasPermissions 10 = .ok (.ifCond .ne 7, 3) := by decide +kernel
theorem dX_hasPermissions_13 : decode cX_hasPermissions 13 = .ok (.iconst 1, 1) := by decide +kernel
theorem dX_hasPermissions_14 : decode cX_hasPermissions 14 = .ok (.goto 4, 3) := by decide +kernel
theorem dX_hasPermissions_17 : decode cX_hasPermissions 17 = .ok (.iconst 0, 1) := by decide +kernel
theorem dX_hasPermissions_18 : decode cX_hasPermissions 18 = .ok (.ireturn, 1) := by decide +kernel
theorem dX_isInBounds_0 : decode cX_isInBounds 0 = .ok (.iload_n 2, 1) := by decide +kernel
theorem dX_isInBounds_1 : decode cX_isInBounds 1 = .ok (.invokestatic 29, 3) := by decide +kernel
theorem dX_isInBounds_4 : decode cX_isInBounds 4 = .ok (.lstore 5, 2) := by decide +kernel
theorem dX_isInBounds_6 : decode cX_isInBounds 6 = .ok (.lload 5, 2) := by decide +kernel
theorem dX_isInBounds_8 : decode cX_isInBounds 8 = .ok (.aload_n 0, 1) := by decide +kernel
theorem dX_isInBounds_9 : decode cX_isInBounds 9 = .ok (.getfield 13, 3) := by decide +kernel
theorem dX_isInBounds_12 : decode cX_isInBounds 12 = .ok (.iload_n 1, 1) := by decide +kernel
theorem dX_isInBounds_13 : decode cX_isInBounds 13 = .ok (.iaload, 1) := by decide +kernel
theorem dX_isInBounds_14 : decode cX_isInBounds 14 = .ok (.invokestatic 29, 3) := by decide +kernel
theorem dX_isInBounds_17 : decode cX_isInBounds 17 = .ok (.lcmp, 1) := by decide +kernel
theorem dX_isInBounds_18 : decode cX_isInBounds 18 = .ok (.ifCond .lt 24, 3) := by decide +kernel
theorem dX_isInBounds_21 : decode cX_isInBounds 21 = .ok (.lload 5, 2) := by decide +kernel
theorem dX_isInBounds_23 : decode cX_isInBounds 23 = .ok (.lload_n 3, 1) := by decide +kernel
theorem dX_isInBounds_24 : decode cX_isInBounds 24 = .ok (.ladd, 1) := by decide +kernel
theorem dX_isInBounds_25 : decode cX_isInBounds 25 = .ok (.aload_n 0, 1) := by decide +kernel
theorem dX_isInBounds_26 : decode cX_isInBounds 26 = .ok (.getfield 16, 3) := by decide +kernel
theorem dX_isInBounds_29 : decode cX_isInBounds 29 = .ok (.iload_n 1, 1) := by decide +kernel
theorem dX_isInBounds_30 : decode cX_isInBounds 30 = .ok (.iaload, 1) := by decide +kernel
theorem dX_isInBounds_31 : decode cX_isInBounds 31 = .ok (.invokestatic 29, 3) := by decide +kernel
theorem dX_isInBounds_34 : decode cX_isInBounds 34 = .ok (.lcmp, 1) := by decide +kernel
theorem dX_isInBounds_35 : decode cX_isInBounds 35 = .ok (.ifCond .gt 7, 3) := by decide +kernel
theorem dX_isInBounds_38 : decode cX_isInBounds 38 = .ok (.iconst 1, 1) := by decide +kernel
theorem dX_isInBounds_39 : decode cX_isInBounds 39 = .ok (.goto 4, 3) := by decide +kernel
theorem dX_isInBounds_42 : decode cX_isInBounds 42 = .ok (.iconst 0, 1) := by decide +kernel
theorem dX_isInBounds_43 : decode cX_isInBounds 43 = .ok (.ireturn, 1) := by decide +kernel
theorem dX_accessCause_0 : decode cX_accessCause 0 = .ok (.aload_n 0, 1) := by decide +kernel
theorem dX_accessCause_1 : decode cX_accessCause 1 = .ok (.getfield 25, 3) := by decide +kernel
theorem dX_accessCause_4 : decode cX_accessCause 4 = .ok (.iload_n 1, 1) := by decide +kernel
theorem dX_accessCause_5 : decode cX_accessCause 5 = .ok (.baload, 1) := by decide +kernel
theorem dX_accessCause_6 : decode cX_accessCause 6 = .ok (.ifCond .ne 5, 3) := by decide +kernel
theorem dX_accessCause_9 : decode cX_accessCause 9 = .ok (.iconst 1, 1) := by decide +kernel
theorem dX_accessCause_10 : decode cX_accessCause 10 = .ok (.ireturn, 1) := by decide +kernel
theorem dX_accessCause_11 : decode cX_accessCause 11 = .ok (.aload_n 0, 1) := by decide +kernel
theorem dX_accessCause_12 : decode cX_accessCause 12 = .ok (.iload_n 1, 1) := by decide +kernel
theorem dX_accessCause_13 : decode cX_accessCause 13 = .ok (.invokevirtual 46, 3) := by decide +kernel
theorem dX_accessCause_16 : decode cX_accessCause 16 = .ok (.ifCond .eq 5, 3) := by decide +kernel
theorem dX_accessCause_19 : decode cX_accessCause 19 = .ok (.iconst 2, 1) := by decide +kernel
theorem dX_accessCause_20 : decode cX_accessCause 20 = .ok (.ireturn, 1) := by decide +kernel
theorem dX_accessCause_21 : decode cX_accessCause 21 = .ok (.aload_n 0, 1) := by decide +kernel
theorem dX_accessCause_22 : decode cX_accessCause 22 = .ok (.iload_n 1, 1) := by decide +kernel
theorem dX_accessCause_23 : decode cX_accessCause 23 = .ok (.iload 4, 2) := by decide +kernel
theorem dX_accessCause_25 : decode cX_accessCause 25 = .ok (.invokevirtual 72, 3) := by decide +kernel
theorem dX_accessCause_28 : decode cX_accessCause 28 = .ok (.ifCond .ne 5, 3) := by decide +kernel
theorem dX_accessCause_31 : decode cX_accessCause 31 = .ok (.iconst 3, 1) := by decide +kernel
theorem dX_accessCause_32 : decode cX_accessCause 32 = .ok (.ireturn, 1) := by decide +kernel
theorem dX_accessCause_33 : decode cX_accessCause 33 = .ok (.aload_n 0, 1) := by decide +kernel
theorem dX_accessCause_34 : decode cX_accessCause 34 = .ok (.iload_n 1, 1) := by decide +kernel
theorem dX_accessCause_35 : decode cX_accessCause 35 = .ok (.iload_n 2, 1) := by decide +kernel
theorem dX_accessCause_36 : decode cX_accessCause 36 = .ok (.iload_n 3, 1) := by decide +kernel
theorem dX_accessCause_37 : decode cX_accessCause 37 = .ok (.i2l, 1) := by decide +kernel
theorem dX_accessCause_38 : decode cX_accessCause 38 = .ok (.invokevirtual 54, 3) := by decide +kernel
theorem dX_accessCause_41 : decode cX_accessCause 41 = .ok (.ifCond .eq 7, 3) := by decide +kernel
theorem dX_accessCause_44 : decode cX_accessCause 44 = .ok (.iconst 0, 1) := by decide +kernel
theorem dX_accessCause_45 : decode cX_accessCause 45 = .ok (.goto 4, 3) := by decide +kernel
theorem dX_accessCause_48 : decode cX_accessCause 48 = .ok (.iconst 4, 1) := by decide +kernel
theorem dX_accessCause_49 : decode cX_accessCause 49 = .ok (.ireturn, 1) := by decide +kernel
theorem dX_sealingCause_0 : decode cX_sealingCause 0 = .ok (.aload_n 0, 1) := by decide +kernel
theorem dX_sealingCause_1 : decode cX_sealingCause 1 = .ok (.getfield 25, 3) := by decide +kernel
theorem dX_sealingCause_4 : decode cX_sealingCause 4 = .ok (.iload_n 1, 1) := by decide +kernel
theorem dX_sealingCause_5 : decode cX_sealingCause 5 = .ok (.baload, 1) := by decide +kernel
theorem dX_sealingCause_6 : decode cX_sealingCause 6 = .ok (.ifCond .eq 12, 3) := by decide +kernel
theorem dX_sealingCause_9 : decode cX_sealingCause 9 = .ok (.aload_n 0, 1) := by decide +kernel
theorem dX_sealingCause_10 : decode cX_sealingCause 10 = .ok (.getfield 25, 3) := by decide +kernel
theorem dX_sealingCause_13 : decode cX_sealingCause 13 = .ok (.iload_n 2, 1) := by decide +kernel
theorem dX_sealingCause_14 : decode cX_sealingCause 14 = .ok (.baload, 1) := by decide +kernel
theorem dX_sealingCause_15 : decode cX_sealingCause 15 = .ok (.ifCond .ne 5, 3) := by decide +kernel
theorem dX_sealingCause_18 : decode cX_sealingCause 18 = .ok (.iconst 1, 1) := by decide +kernel
theorem dX_sealingCause_19 : decode cX_sealingCause 19 = .ok (.ireturn, 1) := by decide +kernel
theorem dX_sealingCause_20 : decode cX_sealingCause 20 = .ok (.aload_n 0, 1) := by decide +kernel
theorem dX_sealingCause_21 : decode cX_sealingCause 21 = .ok (.iload_n 1, 1) := by decide +kernel
theorem dX_sealingCause_22 : decode cX_sealingCause 22 = .ok (.invokevirtual 46, 3) := by decide +kernel
theorem dX_sealingCause_25 : decode cX_sealingCause 25 = .ok (.ifCond .eq 5, 3) := by decide +kernel
theorem dX_sealingCause_28 : decode cX_sealingCause 28 = .ok (.iconst 2, 1) := by decide +kernel
theorem dX_sealingCause_29 : decode cX_sealingCause 29 = .ok (.ireturn, 1) := by decide +kernel
theorem dX_sealingCause_30 : decode cX_sealingCause 30 = .ok (.aload_n 0, 1) := by decide +kernel
theorem dX_sealingCause_31 : decode cX_sealingCause 31 = .ok (.iload_n 2, 1) := by decide +kernel
theorem dX_sealingCause_32 : decode cX_sealingCause 32 = .ok (.aload_n 0, 1) := by decide +kernel
theorem dX_sealingCause_33 : decode cX_sealingCause 33 = .ok (.getfield 9, 3) := by decide +kernel
theorem dX_sealingCause_36 : decode cX_sealingCause 36 = .ok (.iload_n 2, 1) := by decide +kernel
theorem dX_sealingCause_37 : decode cX_sealingCause 37 = .ok (.iaload, 1) := by decide +kernel
theorem dX_sealingCause_38 : decode cX_sealingCause 38 = .ok (.iconst 1, 1) := by decide +kernel
theorem dX_sealingCause_39 : decode cX_sealingCause 39 = .ok (.bipush 32, 2) := by decide +kernel
theorem dX_sealingCause_41 : decode cX_sealingCause 41 = .ok (.invokevirtual 68, 3) := by decide +kernel
theorem dX_sealingCause_44 : decode cX_sealingCause 44 = .ok (.istore_n 3, 1) := by decide +kernel
theorem dX_sealingCause_45 : decode cX_sealingCause 45 = .ok (.iload_n 3, 1) := by decide +kernel
theorem dX_sealingCause_46 : decode cX_sealingCause 46 = .ok (.ifCond .eq 5, 3) := by decide +kernel
theorem dX_sealingCause_49 : decode cX_sealingCause 49 = .ok (.iload_n 3, 1) := by decide +kernel
theorem dX_sealingCause_50 : decode cX_sealingCause 50 = .ok (.ireturn, 1) := by decide +kernel
theorem dX_sealingCause_51 : decode cX_sealingCause 51 = .ok (.aload_n 0, 1) := by decide +kernel
theorem dX_sealingCause_52 : decode cX_sealingCause 52 = .ok (.getfield 9, 3) := by decide +kernel
theorem dX_sealingCause_55 : decode cX_sealingCause 55 = .ok (.iload_n 2, 1) := by decide +kernel
theorem dX_sealingCause_56 : decode cX_sealingCause 56 = .ok (.iaload, 1) := by decide +kernel
theorem dX_sealingCause_57 : decode cX_sealingCause 57 = .ok (.iconst 1, 1) := by decide +kernel
theorem dX_sealingCause_58 : decode cX_sealingCause 58 = .ok (.if_icmp .lt 18, 3) := by decide +kernel
theorem dX_sealingCause_61 : decode cX_sealingCause 61 = .ok (.aload_n 0, 1) := by decide +kernel
theorem dX_sealingCause_62 : decode cX_sealingCause 62 = .ok (.getfield 9, 3) := by decide +kernel
theorem dX_sealingCause_65 : decode cX_sealingCause 65 = .ok (.iload_n 2, 1) := by decide +kernel
theorem dX_sealingCause_66 : decode cX_sealingCause 66 = .ok (.iaload, 1) := by decide +kernel
theorem dX_sealingCause_67 : decode cX_sealingCause 67 = .ok (.ldc 85, 2) := by decide +kernel
theorem dX_sealingCause_69 : decode cX_sealingCause 69 = .ok (.if_icmp .gt 7, 3) := by decide +kernel
theorem dX_sealingCause_72 : decode cX_sealingCause 72 = .ok (.iconst 1, 1) := by decide +kernel
theorem dX_sealingCause_73 : decode cX_sealingCause 73 = .ok (.goto 4, 3) := by decide +kernel
theorem dX_sealingCause_76 : decode cX_sealingCause 76 = .ok (.iconst 0, 1) := by decide +kernel
theorem dX_sealingCause_77 : decode cX_sealingCause 77 = .ok (.istore 4, 2) := by decide +kernel
theorem dX_sealingCause_79 : decode cX_sealingCause 79 = .ok (.iload 4, 2) := by decide +kernel
theorem dX_sealingCause_81 : decode cX_sealingCause 81 = .ok (.ifCond .eq 7, 3) := by decide +kernel
theorem dX_sealingCause_84 : decode cX_sealingCause 84 = .ok (.iconst 0, 1) := by decide +kernel
theorem dX_sealingCause_85 : decode cX_sealingCause 85 = .ok (.goto 4, 3) := by decide +kernel
theorem dX_sealingCause_88 : decode cX_sealingCause 88 = .ok (.iconst 4, 1) := by decide +kernel
theorem dX_sealingCause_89 : decode cX_sealingCause 89 = .ok (.ireturn, 1) := by decide +kernel
theorem dX_unsealingCause_0 : decode cX_unsealingCause 0 = .ok (.aload_n 0, 1) := by decide +kernel
theorem dX_unsealingCause_1 : decode cX_unsealingCause 1 = .ok (.getfield 25, 3) := by decide +kernel
theorem dX_unsealingCause_4 : decode cX_unsealingCause 4 = .ok (.iload_n 1, 1) := by decide +kernel
theorem dX_unsealingCause_5 : decode cX_unsealingCause 5 = .ok (.baload, 1) := by decide +kernel
theorem dX_unsealingCause_6 : decode cX_unsealingCause 6 = .ok (.ifCond .eq 12, 3) := by decide +kernel
theorem dX_unsealingCause_9 : decode cX_unsealingCause 9 = .ok (.aload_n 0, 1) := by decide +kernel
theorem dX_unsealingCause_10 : decode cX_unsealingCause 10 = .ok (.getfield 25, 3) := by decide +kernel
theorem dX_unsealingCause_13 : decode cX_unsealingCause 13 = .ok (.iload_n 2, 1) := by decide +kernel
theorem dX_unsealingCause_14 : decode cX_unsealingCause 14 = .ok (.baload, 1) := by decide +kernel
theorem dX_unsealingCause_15 : decode cX_unsealingCause 15 = .ok (.ifCond .ne 5, 3) := by decide +kernel
theorem dX_unsealingCause_18 : decode cX_unsealingCause 18 = .ok (.iconst 1, 1) := by decide +kernel
theorem dX_unsealingCause_19 : decode cX_unsealingCause 19 = .ok (.ireturn, 1) := by decide +kernel
theorem dX_unsealingCause_20 : decode cX_unsealingCause 20 = .ok (.aload_n 0, 1) := by decide +kernel
theorem dX_unsealingCause_21 : decode cX_unsealingCause 21 = .ok (.iload_n 1, 1) := by decide +kernel
theorem dX_unsealingCause_22 : decode cX_unsealingCause 22 = .ok (.invokevirtual 46, 3) := by decide +kernel
theorem dX_unsealingCause_25 : decode cX_unsealingCause 25 = .ok (.ifCond .ne 5, 3) := by decide +kernel
theorem dX_unsealingCause_28 : decode cX_unsealingCause 28 = .ok (.iconst 2, 1) := by decide +kernel
theorem dX_unsealingCause_29 : decode cX_unsealingCause 29 = .ok (.ireturn, 1) := by decide +kernel
theorem dX_unsealingCause_30 : decode cX_unsealingCause 30 = .ok (.aload_n 0, 1) := by decide +kernel
theorem dX_unsealingCause_31 : decode cX_unsealingCause 31 = .ok (.iload_n 2, 1) := by decide +kernel
theorem dX_unsealingCause_32 : decode cX_unsealingCause 32 = .ok (.aload_n 0, 1) := by decide +kernel
theorem dX_unsealingCause_33 : decode cX_unsealingCause 33 = .ok (.getfield 9, 3) := by decide +kernel
theorem dX_unsealingCause_36 : decode cX_unsealingCause 36 = .ok (.iload_n 2, 1) := by decide +kernel
theorem dX_unsealingCause_37 : decode cX_unsealingCause 37 = .ok (.iaload, 1) := by decide +kernel
theorem dX_unsealingCause_38 : decode cX_unsealingCause 38 = .ok (.iconst 1, 1) := by decide +kernel
theorem dX_unsealingCause_39 : decode cX_unsealingCause 39 = .ok (.bipush 64, 2) := by decide +kernel
theorem dX_unsealingCause_41 : decode cX_unsealingCause 41 = .ok (.invokevirtual 68, 3) := by decide +kernel
theorem dX_unsealingCause_44 : decode cX_unsealingCause 44 = .ok (.istore_n 3, 1) := by decide +kernel
theorem dX_unsealingCause_45 : decode cX_unsealingCause 45 = .ok (.iload_n 3, 1) := by decide +kernel
theorem dX_unsealingCause_46 : decode cX_unsealingCause 46 = .ok (.ifCond .eq 5, 3) := by decide +kernel
theorem dX_unsealingCause_49 : decode cX_unsealingCause 49 = .ok (.iload_n 3, 1) := by decide +kernel
theorem dX_unsealingCause_50 : decode cX_unsealingCause 50 = .ok (.ireturn, 1) := by decide +kernel
theorem dX_unsealingCause_51 : decode cX_unsealingCause 51 = .ok (.aload_n 0, 1) := by decide +kernel
theorem dX_unsealingCause_52 : decode cX_unsealingCause 52 = .ok (.getfield 9, 3) := by decide +kernel
theorem dX_unsealingCause_55 : decode cX_unsealingCause 55 = .ok (.iload_n 2, 1) := by decide +kernel
theorem dX_unsealingCause_56 : decode cX_unsealingCause 56 = .ok (.iaload, 1) := by decide +kernel
theorem dX_unsealingCause_57 : decode cX_unsealingCause 57 = .ok (.aload_n 0, 1) := by decide +kernel
theorem dX_unsealingCause_58 : decode cX_unsealingCause 58 = .ok (.getfield 22, 3) := by decide +kernel
theorem dX_unsealingCause_61 : decode cX_unsealingCause 61 = .ok (.iload_n 1, 1) := by decide +kernel
theorem dX_unsealingCause_62 : decode cX_unsealingCause 62 = .ok (.iaload, 1) := by decide +kernel
theorem dX_unsealingCause_63 : decode cX_unsealingCause 63 = .ok (.if_icmp .ne 7, 3) := by decide +kernel
theorem dX_unsealingCause_66 : decode cX_unsealingCause 66 = .ok (.iconst 0, 1) := by decide +kernel
theorem dX_unsealingCause_67 : decode cX_unsealingCause 67 = .ok (.goto 4, 3) := by decide +kernel
theorem dX_unsealingCause_70 : decode cX_unsealingCause 70 = .ok (.iconst 4, 1) := by decide +kernel
theorem dX_unsealingCause_71 : decode cX_unsealingCause 71 = .ok (.ireturn, 1) := by decide +kernel
