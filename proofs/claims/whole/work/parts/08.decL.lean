/-! Rows that decode each instruction. Laid by program. -/
theorem dL_root_0 : decode cL_root 0 = .ok (.aload_n 0, 1) := by decide +kernel
theorem dL_root_1 : decode cL_root 1 = .ok (.iload_n 1, 1) := by decide +kernel
theorem dL_root_2 : decode cL_root 2 = .ok (.iload_n 2, 1) := by decide +kernel
theorem dL_root_3 : decode cL_root 3 = .ok (.iload_n 3, 1) := by decide +kernel
theorem dL_root_4 : decode cL_root 4 = .ok (.iload 4, 2) := by decide +kernel
theorem dL_root_6 : decode cL_root 6 = .ok (.invokevirtual 7, 3) := by decide +kernel
theorem dL_root_9 : decode cL_root 9 = .ok (.goto 11, 3) := by decide +kernel
theorem dL_root_12 : decode cL_root 12 = .ok (.astore 5, 2) := by decide +kernel
theorem dL_root_14 : decode cL_root 14 = .ok (.iconst 1, 1) := by decide +kernel
theorem dL_root_15 : decode cL_root 15 = .ok (.ireturn, 1) := by decide +kernel
theorem dL_root_16 : decode cL_root 16 = .ok (.astore 5, 2) := by decide +kernel
theorem dL_root_18 : decode cL_root 18 = .ok (.iconst 2, 1) := by decide +kernel
theorem dL_root_19 : decode cL_root 19 = .ok (.ireturn, 1) := by decide +kernel
theorem dL_root_20 : decode cL_root 20 = .ok (.iconst 0, 1) := by decide +kernel
theorem dL_root_21 : decode cL_root 21 = .ok (.ireturn, 1) := by decide +kernel
theorem dL_number_0 : decode cL_number 0 = .ok (.aload_n 0, 1) := by decide +kernel
theorem dL_number_1 : decode cL_number 1 = .ok (.iload_n 1, 1) := by decide +kernel
theorem dL_number_2 : decode cL_number 2 = .ok (.iload_n 2, 1) := by decide +kernel
theorem dL_number_3 : decode cL_number 3 = .ok (.invokevirtual 17, 3) := by decide +kernel
theorem dL_number_6 : decode cL_number 6 = .ok (.goto 6, 3) := by decide +kernel
theorem dL_number_9 : decode cL_number 9 = .ok (.astore_n 3, 1) := by decide +kernel
theorem dL_number_10 : decode cL_number 10 = .ok (.iconst 1, 1) := by decide +kernel
theorem dL_number_11 : decode cL_number 11 = .ok (.ireturn, 1) := by decide +kernel
theorem dL_number_12 : decode cL_number 12 = .ok (.iconst 0, 1) := by decide +kernel
theorem dL_number_13 : decode cL_number 13 = .ok (.ireturn, 1) := by decide +kernel
theorem dL_move_0 : decode cL_move 0 = .ok (.aload_n 0, 1) := by decide +kernel
theorem dL_move_1 : decode cL_move 1 = .ok (.iload_n 1, 1) := by decide +kernel
theorem dL_move_2 : decode cL_move 2 = .ok (.iload_n 2, 1) := by decide +kernel
theorem dL_move_3 : decode cL_move 3 = .ok (.iload_n 3, 1) := by decide +kernel
theorem dL_move_4 : decode cL_move 4 = .ok (.invokevirtual 21, 3) := by decide +kernel
theorem dL_move_7 : decode cL_move 7 = .ok (.goto 7, 3) := by decide +kernel
theorem dL_move_10 : decode cL_move 10 = .ok (.astore 4, 2) := by decide +kernel
theorem dL_move_12 : decode cL_move 12 = .ok (.iconst 1, 1) := by decide +kernel
theorem dL_move_13 : decode cL_move 13 = .ok (.ireturn, 1) := by decide +kernel
theorem dL_move_14 : decode cL_move 14 = .ok (.iconst 0, 1) := by decide +kernel
theorem dL_move_15 : decode cL_move 15 = .ok (.ireturn, 1) := by decide +kernel
theorem dL_narrow_0 : decode cL_narrow 0 = .ok (.aload 4, 2) := by decide +kernel
theorem dL_narrow_2 : decode cL_narrow 2 = .ok (.iconst 0, 1) := by decide +kernel
theorem dL_narrow_3 : decode cL_narrow 3 = .ok (.aload_n 0, 1) := by decide +kernel
theorem dL_narrow_4 : decode cL_narrow 4 = .ok (.iload_n 1, 1) := by decide +kernel
theorem dL_narrow_5 : decode cL_narrow 5 = .ok (.iload_n 2, 1) := by decide +kernel
theorem dL_narrow_6 : decode cL_narrow 6 = .ok (.iload_n 3, 1) := by decide +kernel
theorem dL_narrow_7 : decode cL_narrow 7 = .ok (.invokevirtual 25, 3) := by decide +kernel
theorem dL_narrow_10 : decode cL_narrow 10 = .ok (.ifCond .eq 7, 3) := by decide +kernel
theorem dL_narrow_13 : decode cL_narrow 13 = .ok (.lconst 1, 1) := by decide +kernel
theorem dL_narrow_14 : decode cL_narrow 14 = .ok (.goto 4, 3) := by decide +kernel
theorem dL_narrow_17 : decode cL_narrow 17 = .ok (.lconst 0, 1) := by decide +kernel
theorem dL_narrow_18 : decode cL_narrow 18 = .ok (.lastore, 1) := by decide +kernel
theorem dL_narrow_19 : decode cL_narrow 19 = .ok (.goto 7, 3) := by decide +kernel
theorem dL_narrow_22 : decode cL_narrow 22 = .ok (.astore 5, 2) := by decide +kernel
theorem dL_narrow_24 : decode cL_narrow 24 = .ok (.iconst 1, 1) := by decide +kernel
theorem dL_narrow_25 : decode cL_narrow 25 = .ok (.ireturn, 1) := by decide +kernel
theorem dL_narrow_26 : decode cL_narrow 26 = .ok (.iconst 0, 1) := by decide +kernel
theorem dL_narrow_27 : decode cL_narrow 27 = .ok (.ireturn, 1) := by decide +kernel
theorem dL_restrict_0 : decode cL_restrict 0 = .ok (.aload 4, 2) := by decide +kernel
theorem dL_restrict_2 : decode cL_restrict 2 = .ok (.iconst 0, 1) := by decide +kernel
theorem dL_restrict_3 : decode cL_restrict 3 = .ok (.aload_n 0, 1) := by decide +kernel
theorem dL_restrict_4 : decode cL_restrict 4 = .ok (.iload_n 1, 1) := by decide +kernel
theorem dL_restrict_5 : decode cL_restrict 5 = .ok (.iload_n 2, 1) := by decide +kernel
theorem dL_restrict_6 : decode cL_restrict 6 = .ok (.iload_n 3, 1) := by decide +kernel
theorem dL_restrict_7 : decode cL_restrict 7 = .ok (.invokevirtual 29, 3) := by decide +kernel
theorem dL_restrict_10 : decode cL_restrict 10 = .ok (.ifCond .eq 7, 3) := by decide +kernel
theorem dL_restrict_13 : decode cL_restrict 13 = .ok (.lconst 1, 1) := by decide +kernel
theorem dL_restrict_14 : decode cL_restrict 14 = .ok (.goto 4, 3) := by decide +kernel
theorem dL_restrict_17 : decode cL_restrict 17 = .ok (.lconst 0, 1) := by decide +kernel
theorem dL_restrict_18 : decode cL_restrict 18 = .ok (.lastore, 1) := by decide +kernel
theorem dL_restrict_19 : decode cL_restrict 19 = .ok (.goto 7, 3) := by decide +kernel
theorem dL_restrict_22 : decode cL_restrict 22 = .ok (.astore 5, 2) := by decide +kernel
theorem dL_restrict_24 : decode cL_restrict 24 = .ok (.iconst 1, 1) := by decide +kernel
theorem dL_restrict_25 : decode cL_restrict 25 = .ok (.ireturn, 1) := by decide +kernel
theorem dL_restrict_26 : decode cL_restrict 26 = .ok (.iconst 0, 1) := by decide +kernel
theorem dL_restrict_27 : decode cL_restrict 27 = .ok (.ireturn, 1) := by decide +kernel
theorem dL_seal_0 : decode cL_seal 0 = .ok (.aload 4, 2) := by decide +kernel
theorem dL_seal_2 : decode cL_seal 2 = .ok (.iconst 0, 1) := by decide +kernel
theorem dL_seal_3 : decode cL_seal 3 = .ok (.aload_n 0, 1) := by decide +kernel
theorem dL_seal_4 : decode cL_seal 4 = .ok (.iload_n 1, 1) := by decide +kernel
theorem dL_seal_5 : decode cL_seal 5 = .ok (.iload_n 2, 1) := by decide +kernel
theorem dL_seal_6 : decode cL_seal 6 = .ok (.iload_n 3, 1) := by decide +kernel
theorem dL_seal_7 : decode cL_seal 7 = .ok (.invokevirtual 32, 3) := by decide +kernel
theorem dL_seal_10 : decode cL_seal 10 = .ok (.i2l, 1) := by decide +kernel
theorem dL_seal_11 : decode cL_seal 11 = .ok (.lastore, 1) := by decide +kernel
theorem dL_seal_12 : decode cL_seal 12 = .ok (.goto 7, 3) := by decide +kernel
theorem dL_seal_15 : decode cL_seal 15 = .ok (.astore 5, 2) := by decide +kernel
theorem dL_seal_17 : decode cL_seal 17 = .ok (.iconst 1, 1) := by decide +kernel
theorem dL_seal_18 : decode cL_seal 18 = .ok (.ireturn, 1) := by decide +kernel
theorem dL_seal_19 : decode cL_seal 19 = .ok (.iconst 0, 1) := by decide +kernel
theorem dL_seal_20 : decode cL_seal 20 = .ok (.ireturn, 1) := by decide +kernel
theorem dL_unseal_0 : decode cL_unseal 0 = .ok (.aload 4, 2) := by decide +kernel
theorem dL_unseal_2 : decode cL_unseal 2 = .ok (.iconst 0, 1) := by decide +kernel
theorem dL_unseal_3 : decode cL_unseal 3 = .ok (.aload_n 0, 1) := by decide +kernel
theorem dL_unseal_4 : decode cL_unseal 4 = .ok (.iload_n 1, 1) := by decide +kernel
theorem dL_unseal_5 : decode cL_unseal 5 = .ok (.iload_n 2, 1) := by decide +kernel
theorem dL_unseal_6 : decode cL_unseal 6 = .ok (.iload_n 3, 1) := by decide +kernel
theorem dL_unseal_7 : decode cL_unseal 7 = .ok (.invokevirtual 36, 3) := by decide +kernel
theorem dL_unseal_10 : decode cL_unseal 10 = .ok (.i2l, 1) := by decide +kernel
theorem dL_unseal_11 : decode cL_unseal 11 = .ok (.lastore, 1) := by decide +kernel
theorem dL_unseal_12 : decode cL_unseal 12 = .ok (.goto 7, 3) := by decide +kernel
theorem dL_unseal_15 : decode cL_unseal 15 = .ok (.astore 5, 2) := by decide +kernel
theorem dL_unseal_17 : decode cL_unseal 17 = .ok (.iconst 1, 1) := by decide +kernel
theorem dL_unseal_18 : decode cL_unseal 18 = .ok (.ireturn, 1) := by decide +kernel
theorem dL_unseal_19 : decode cL_unseal 19 = .ok (.iconst 0, 1) := by decide +kernel
theorem dL_unseal_20 : decode cL_unseal 20 = .ok (.ireturn, 1) := by decide +kernel
theorem dL_allows_0 : decode cL_allows 0 = .ok (.aload 5, 2) := by decide +kernel
theorem dL_allows_2 : decode cL_allows 2 = .ok (.iconst 0, 1) := by decide +kernel
theorem dL_allows_3 : decode cL_allows 3 = .ok (.aload_n 0, 1) := by decide +kernel
theorem dL_allows_4 : decode cL_allows 4 = .ok (.iload_n 1, 1) := by decide +kernel
theorem dL_allows_5 : decode cL_allows 5 = .ok (.iload_n 2, 1) := by decide +kernel
theorem dL_allows_6 : decode cL_allows 6 = .ok (.iload_n 3, 1) := by decide +kernel
theorem dL_allows_7 : decode cL_allows 7 = .ok (.iload 4, 2) := by decide +kernel
theorem dL_allows_9 : decode cL_allows 9 = .ok (.invokevirtual 39, 3) := by decide +kernel
theorem dL_allows_12 : decode cL_allows 12 = .ok (.i2l, 1) := by decide +kernel
theorem dL_allows_13 : decode cL_allows 13 = .ok (.lastore, 1) := by decide +kernel
theorem dL_allows_14 : decode cL_allows 14 = .ok (.goto 11, 3) := by decide +kernel
theorem dL_allows_17 : decode cL_allows 17 = .ok (.astore 6, 2) := by decide +kernel
theorem dL_allows_19 : decode cL_allows 19 = .ok (.iconst 1, 1) := by decide +kernel
theorem dL_allows_20 : decode cL_allows 20 = .ok (.ireturn, 1) := by decide +kernel
theorem dL_allows_21 : decode cL_allows 21 = .ok (.astore 6, 2) := by decide +kernel
theorem dL_allows_23 : decode cL_allows 23 = .ok (.iconst 2, 1) := by decide +kernel
theorem dL_allows_24 : decode cL_allows 24 = .ok (.ireturn, 1) := by decide +kernel
theorem dL_allows_25 : decode cL_allows 25 = .ok (.iconst 0, 1) := by decide +kernel
theorem dL_allows_26 : decode cL_allows 26 = .ok (.ireturn, 1) := by decide +kernel
theorem dL_within_0 : decode cL_within 0 = .ok (.aload_n 3, 1) := by decide +kernel
theorem dL_within_1 : decode cL_within 1 = .ok (.iconst 0, 1) := by decide +kernel
theorem dL_within_2 : decode cL_within 2 = .ok (.aload_n 0, 1) := by decide +kernel
theorem dL_within_3 : decode cL_within 3 = .ok (.iload_n 1, 1) := by decide +kernel
theorem dL_within_4 : decode cL_within 4 = .ok (.iload_n 2, 1) := by decide +kernel
theorem dL_within_5 : decode cL_within 5 = .ok (.invokevirtual 43, 3) := by decide +kernel
theorem dL_within_8 : decode cL_within 8 = .ok (.ifCond .eq 7, 3) := by decide +kernel
theorem dL_within_11 : decode cL_within 11 = .ok (.lconst 1, 1) := by decide +kernel
theorem dL_within_12 : decode cL_within 12 = .ok (.goto 4, 3) := by decide +kernel
theorem dL_within_15 : decode cL_within 15 = .ok (.lconst 0, 1) := by decide +kernel
theorem dL_within_16 : decode cL_within 16 = .ok (.lastore, 1) := by decide +kernel
theorem dL_within_17 : decode cL_within 17 = .ok (.goto 7, 3) := by decide +kernel
theorem dL_within_20 : decode cL_within 20 = .ok (.astore 4, 2) := by decide +kernel
theorem dL_within_22 : decode cL_within 22 = .ok (.iconst 1, 1) := by decide +kernel
theorem dL_within_23 : decode cL_within 23 = .ok (.ireturn, 1) := by decide +kernel
theorem dL_within_24 : decode cL_within 24 = .ok (.iconst 0, 1) := by decide +kernel
theorem dL_within_25 : decode cL_within 25 = .ok (.ireturn, 1) := by decide +kernel
theorem dL_part_0 : decode cL_part 0 = .ok (.aload_n 3, 1) := by decide +kernel
theorem dL_part_1 : decode cL_part 1 = .ok (.iconst 0, 1) := by decide +kernel
theorem dL_part_2 : decode cL_part 2 = .ok (.aload_n 0, 1) := by decide +kernel
theorem dL_part_3 : decode cL_part 3 = .ok (.iload_n 1, 1) := by decide +kernel
theorem dL_part_4 : decode cL_part 4 = .ok (.iload_n 2, 1) := by decide +kernel
theorem dL_part_5 : decode cL_part 5 = .ok (.invokevirtual 47, 3) := by decide +kernel
theorem dL_part_8 : decode cL_part 8 = .ok (.i2l, 1) := by decide +kernel
theorem dL_part_9 : decode cL_part 9 = .ok (.lastore, 1) := by decide +kernel
theorem dL_part_10 : decode cL_part 10 = .ok (.goto 11, 3) := by decide +kernel
theorem dL_part_13 : decode cL_part 13 = .ok (.astore 4, 2) := by decide +kernel
theorem dL_part_15 : decode cL_part 15 = .ok (.iconst 1, 1) := by decide +kernel
theorem dL_part_16 : decode cL_part 16 = .ok (.ireturn, 1) := by decide +kernel
theorem dL_part_17 : decode cL_part 17 = .ok (.astore 4, 2) := by decide +kernel
theorem dL_part_19 : decode cL_part 19 = .ok (.iconst 2, 1) := by decide +kernel
theorem dL_part_20 : decode cL_part 20 = .ok (.ireturn, 1) := by decide +kernel
theorem dL_part_21 : decode cL_part 21 = .ok (.iconst 0, 1) := by decide +kernel
theorem dL_part_22 : decode cL_part 22 = .ok (.ireturn, 1) := by decide +kernel
