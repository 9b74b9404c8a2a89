theorem dX5_reads_46 : decode cX5_reads 46 = .ok (.goto (-31), 3) := by decide +kernel
theorem dX5_reads_49 : decode cX5_reads 49 = .ok (.iload_n 3, 1) := by decide +kernel
theorem dX5_reads_50 : decode cX5_reads 50 = .ok (.bipush (-5), 2) := by decide +kernel
theorem dX5_reads_52 : decode cX5_reads 52 = .ok (.if_icmp .ne 7, 3) := by decide +kernel
theorem dX5_reads_55 : decode cX5_reads 55 = .ok (.iconst (-1), 1) := by decide +kernel
theorem dX5_reads_56 : decode cX5_reads 56 = .ok (.goto 5, 3) := by decide +kernel
theorem dX5_reads_59 : decode cX5_reads 59 = .ok (.iload 4, 2) := by decide +kernel
theorem dX5_reads_61 : decode cX5_reads 61 = .ok (.ireturn, 1) := by decide +kernel
theorem dX5_pinned_0 : decode cX5_pinned 0 = .ok (.iconst 0, 1) := by decide +kernel
theorem dX5_pinned_1 : decode cX5_pinned 1 = .ok (.istore_n 2, 1) := by decide +kernel
theorem dX5_pinned_2 : decode cX5_pinned 2 = .ok (.iconst 0, 1) := by decide +kernel
theorem dX5_pinned_3 : decode cX5_pinned 3 = .ok (.istore_n 3, 1) := by decide +kernel
theorem dX5_pinned_4 : decode cX5_pinned 4 = .ok (.iload_n 3, 1) := by decide +kernel
theorem dX5_pinned_5 : decode cX5_pinned 5 = .ok (.aload_n 0, 1) := by decide +kernel
theorem dX5_pinned_6 : decode cX5_pinned 6 = .ok (.getfield 7, 3) := by decide +kernel
theorem dX5_pinned_9 : decode cX5_pinned 9 = .ok (.iload_n 1, 1) := by decide +kernel
theorem dX5_pinned_10 : decode cX5_pinned 10 = .ok (.bipush 15, 2) := by decide +kernel
theorem dX5_pinned_12 : decode cX5_pinned 12 = .ok (.iadd, 1) := by decide +kernel
theorem dX5_pinned_13 : decode cX5_pinned 13 = .ok (.iaload, 1) := by decide +kernel
theorem dX5_pinned_14 : decode cX5_pinned 14 = .ok (.if_icmp .ge 24, 3) := by decide +kernel
theorem dX5_pinned_17 : decode cX5_pinned 17 = .ok (.iload_n 2, 1) := by decide +kernel
theorem dX5_pinned_18 : decode cX5_pinned 18 = .ok (.aload_n 0, 1) := by decide +kernel
theorem dX5_pinned_19 : decode cX5_pinned 19 = .ok (.getfield 7, 3) := by decide +kernel
theorem dX5_pinned_22 : decode cX5_pinned 22 = .ok (.iload_n 1, 1) := by decide +kernel
theorem dX5_pinned_23 : decode cX5_pinned 23 = .ok (.iload_n 3, 1) := by decide +kernel
theorem dX5_pinned_24 : decode cX5_pinned 24 = .ok (.invokestatic 32, 3) := by decide +kernel
theorem dX5_pinned_27 : decode cX5_pinned 27 = .ok (.iconst 4, 1) := by decide +kernel
theorem dX5_pinned_28 : decode cX5_pinned 28 = .ok (.iadd, 1) := by decide +kernel
theorem dX5_pinned_29 : decode cX5_pinned 29 = .ok (.iaload, 1) := by decide +kernel
theorem dX5_pinned_30 : decode cX5_pinned 30 = .ok (.iadd, 1) := by decide +kernel
theorem dX5_pinned_31 : decode cX5_pinned 31 = .ok (.istore_n 2, 1) := by decide +kernel
theorem dX5_pinned_32 : decode cX5_pinned 32 = .ok (.iinc 3 1, 3) := by decide +kernel
theorem dX5_pinned_35 : decode cX5_pinned 35 = .ok (.goto (-31), 3) := by decide +kernel
theorem dX5_pinned_38 : decode cX5_pinned 38 = .ok (.iload_n 2, 1) := by decide +kernel
theorem dX5_pinned_39 : decode cX5_pinned 39 = .ok (.ireturn, 1) := by decide +kernel
theorem dX5_turnsPin_0 : decode cX5_turnsPin 0 = .ok (.aload_n 0, 1) := by decide +kernel
theorem dX5_turnsPin_1 : decode cX5_turnsPin 1 = .ok (.sipush 215, 3) := by decide +kernel
theorem dX5_turnsPin_4 : decode cX5_turnsPin 4 = .ok (.iload_n 1, 1) := by decide +kernel
theorem dX5_turnsPin_5 : decode cX5_turnsPin 5 = .ok (.invokevirtual 65, 3) := by decide +kernel
theorem dX5_turnsPin_8 : decode cX5_turnsPin 8 = .ok (.istore_n 2, 1) := by decide +kernel
theorem dX5_turnsPin_9 : decode cX5_turnsPin 9 = .ok (.iload_n 2, 1) := by decide +kernel
theorem dX5_turnsPin_10 : decode cX5_turnsPin 10 = .ok (.bipush (-5), 2) := by decide +kernel
theorem dX5_turnsPin_12 : decode cX5_turnsPin 12 = .ok (.if_icmp .ne 5, 3) := by decide +kernel
theorem dX5_turnsPin_15 : decode cX5_turnsPin 15 = .ok (.iconst (-1), 1) := by decide +kernel
theorem dX5_turnsPin_16 : decode cX5_turnsPin 16 = .ok (.ireturn, 1) := by decide +kernel
theorem dX5_turnsPin_17 : decode cX5_turnsPin 17 = .ok (.aload_n 0, 1) := by decide +kernel
theorem dX5_turnsPin_18 : decode cX5_turnsPin 18 = .ok (.getfield 7, 3) := by decide +kernel
theorem dX5_turnsPin_21 : decode cX5_turnsPin 21 = .ok (.sipush 215, 3) := by decide +kernel
theorem dX5_turnsPin_24 : decode cX5_turnsPin 24 = .ok (.iload_n 2, 1) := by decide +kernel
theorem dX5_turnsPin_25 : decode cX5_turnsPin 25 = .ok (.invokestatic 32, 3) := by decide +kernel
theorem dX5_turnsPin_28 : decode cX5_turnsPin 28 = .ok (.iconst 4, 1) := by decide +kernel
theorem dX5_turnsPin_29 : decode cX5_turnsPin 29 = .ok (.iadd, 1) := by decide +kernel
theorem dX5_turnsPin_30 : decode cX5_turnsPin 30 = .ok (.iconst 1, 1) := by decide +kernel
theorem dX5_turnsPin_31 : decode cX5_turnsPin 31 = .ok (.aload_n 0, 1) := by decide +kernel
theorem dX5_turnsPin_32 : decode cX5_turnsPin 32 = .ok (.getfield 7, 3) := by decide +kernel
theorem dX5_turnsPin_35 : decode cX5_turnsPin 35 = .ok (.sipush 215, 3) := by decide +kernel
theorem dX5_turnsPin_38 : decode cX5_turnsPin 38 = .ok (.iload_n 2, 1) := by decide +kernel
theorem dX5_turnsPin_39 : decode cX5_turnsPin 39 = .ok (.invokestatic 32, 3) := by decide +kernel
theorem dX5_turnsPin_42 : decode cX5_turnsPin 42 = .ok (.iconst 4, 1) := by decide +kernel
theorem dX5_turnsPin_43 : decode cX5_turnsPin 43 = .ok (.iadd, 1) := by decide +kernel
theorem dX5_turnsPin_44 : decode cX5_turnsPin 44 = .ok (.iaload, 1) := by decide +kernel
theorem dX5_turnsPin_45 : decode cX5_turnsPin 45 = .ok (.isub, 1) := by decide +kernel
theorem dX5_turnsPin_46 : decode cX5_turnsPin 46 = .ok (.iastore, 1) := by decide +kernel
theorem dX5_turnsPin_47 : decode cX5_turnsPin 47 = .ok (.aload_n 0, 1) := by decide +kernel
theorem dX5_turnsPin_48 : decode cX5_turnsPin 48 = .ok (.sipush 215, 3) := by decide +kernel
theorem dX5_turnsPin_51 : decode cX5_turnsPin 51 = .ok (.invokevirtual 72, 3) := by decide +kernel
theorem dX5_turnsPin_54 : decode cX5_turnsPin 54 = .ok (.ireturn, 1) := by decide +kernel
theorem dX5_passesIn_0 : decode cX5_passesIn 0 = .ok (.aload_n 0, 1) := by decide +kernel
theorem dX5_passesIn_1 : decode cX5_passesIn 1 = .ok (.getfield 7, 3) := by decide +kernel
theorem dX5_passesIn_4 : decode cX5_passesIn 4 = .ok (.sipush 232, 3) := by decide +kernel
theorem dX5_passesIn_7 : decode cX5_passesIn 7 = .ok (.iaload, 1) := by decide +kernel
theorem dX5_passesIn_8 : decode cX5_passesIn 8 = .ok (.iload_n 1, 1) := by decide +kernel
theorem dX5_passesIn_9 : decode cX5_passesIn 9 = .ok (.iadd, 1) := by decide +kernel
theorem dX5_passesIn_10 : decode cX5_passesIn 10 = .ok (.sipush 5000, 3) := by decide +kernel
theorem dX5_passesIn_13 : decode cX5_passesIn 13 = .ok (.if_icmp .le 8, 3) := by decide +kernel
theorem dX5_passesIn_16 : decode cX5_passesIn 16 = .ok (.bipush (-3), 2) := by decide +kernel
theorem dX5_passesIn_18 : decode cX5_passesIn 18 = .ok (.goto 11, 3) := by decide +kernel
theorem dX5_passesIn_21 : decode cX5_passesIn 21 = .ok (.aload_n 0, 1) := by decide +kernel
theorem dX5_passesIn_22 : decode cX5_passesIn 22 = .ok (.sipush 215, 3) := by decide +kernel
theorem dX5_passesIn_25 : decode cX5_passesIn 25 = .ok (.iload_n 1, 1) := by decide +kernel
theorem dX5_passesIn_26 : decode cX5_passesIn 26 = .ok (.invokevirtual 75, 3) := by decide +kernel
theorem dX5_passesIn_29 : decode cX5_passesIn 29 = .ok (.ireturn, 1) := by decide +kernel
theorem dX5_changes_0 : decode cX5_changes 0 = .ok (.iload_n 1, 1) := by decide +kernel
theorem dX5_changes_1 : decode cX5_changes 1 = .ok (.ifCond .lt 7, 3) := by decide +kernel
theorem dX5_changes_4 : decode cX5_changes 4 = .ok (.aload_n 0, 1) := by decide +kernel
theorem dX5_changes_5 : decode cX5_changes 5 = .ok (.invokevirtual 78, 3) := by decide +kernel
theorem dX5_changes_8 : decode cX5_changes 8 = .ok (.iload_n 1, 1) := by decide +kernel
theorem dX5_changes_9 : decode cX5_changes 9 = .ok (.ireturn, 1) := by decide +kernel
theorem dX5_add_0 : decode cX5_add 0 = .ok (.iload_n 1, 1) := by decide +kernel
theorem dX5_add_1 : decode cX5_add 1 = .ok (.iconst 1, 1) := by decide +kernel
theorem dX5_add_2 : decode cX5_add 2 = .ok (.bipush 9, 2) := by decide +kernel
theorem dX5_add_4 : decode cX5_add 4 = .ok (.invokestatic 81, 3) := by decide +kernel
theorem dX5_add_7 : decode cX5_add 7 = .ok (.ifCond .ne 6, 3) := by decide +kernel
theorem dX5_add_10 : decode cX5_add 10 = .ok (.bipush (-2), 2) := by decide +kernel
theorem dX5_add_12 : decode cX5_add 12 = .ok (.ireturn, 1) := by decide +kernel
theorem dX5_add_13 : decode cX5_add 13 = .ok (.aload_n 0, 1) := by decide +kernel
theorem dX5_add_14 : decode cX5_add 14 = .ok (.invokevirtual 84, 3) := by decide +kernel
theorem dX5_add_17 : decode cX5_add 17 = .ok (.aload_n 0, 1) := by decide +kernel
theorem dX5_add_18 : decode cX5_add 18 = .ok (.aload_n 0, 1) := by decide +kernel
theorem dX5_add_19 : decode cX5_add 19 = .ok (.iload_n 1, 1) := by decide +kernel
theorem dX5_add_20 : decode cX5_add 20 = .ok (.invokevirtual 87, 3) := by decide +kernel
theorem dX5_add_23 : decode cX5_add 23 = .ok (.invokevirtual 90, 3) := by decide +kernel
theorem dX5_add_26 : decode cX5_add 26 = .ok (.ireturn, 1) := by decide +kernel
theorem dX5_remove_0 : decode cX5_remove 0 = .ok (.aload_n 0, 1) := by decide +kernel
theorem dX5_remove_1 : decode cX5_remove 1 = .ok (.invokevirtual 84, 3) := by decide +kernel
theorem dX5_remove_4 : decode cX5_remove 4 = .ok (.aload_n 0, 1) := by decide +kernel
theorem dX5_remove_5 : decode cX5_remove 5 = .ok (.aload_n 0, 1) := by decide +kernel
theorem dX5_remove_6 : decode cX5_remove 6 = .ok (.iload_n 1, 1) := by decide +kernel
theorem dX5_remove_7 : decode cX5_remove 7 = .ok (.invokevirtual 93, 3) := by decide +kernel
theorem dX5_remove_10 : decode cX5_remove 10 = .ok (.invokevirtual 90, 3) := by decide +kernel
theorem dX5_remove_13 : decode cX5_remove 13 = .ok (.ireturn, 1) := by decide +kernel
theorem dX5_read_0 : decode cX5_read 0 = .ok (.aload_n 0, 1) := by decide +kernel
theorem dX5_read_1 : decode cX5_read 1 = .ok (.iconst 0, 1) := by decide +kernel
theorem dX5_read_2 : decode cX5_read 2 = .ok (.iload_n 1, 1) := by decide +kernel
theorem dX5_read_3 : decode cX5_read 3 = .ok (.invokevirtual 65, 3) := by decide +kernel
theorem dX5_read_6 : decode cX5_read 6 = .ok (.bipush (-5), 2) := by decide +kernel
theorem dX5_read_8 : decode cX5_read 8 = .ok (.if_icmp .ne 5, 3) := by decide +kernel
theorem dX5_read_11 : decode cX5_read 11 = .ok (.iconst (-1), 1) := by decide +kernel
theorem dX5_read_12 : decode cX5_read 12 = .ok (.ireturn, 1) := by decide +kernel
theorem dX5_read_13 : decode cX5_read 13 = .ok (.iload_n 2, 1) := by decide +kernel
theorem dX5_read_14 : decode cX5_read 14 = .ok (.iconst 1, 1) := by decide +kernel
theorem dX5_read_15 : decode cX5_read 15 = .ok (.bipush 99, 2) := by decide +kernel
theorem dX5_read_17 : decode cX5_read 17 = .ok (.invokestatic 81, 3) := by decide +kernel
theorem dX5_read_20 : decode cX5_read 20 = .ok (.ifCond .ne 6, 3) := by decide +kernel
theorem dX5_read_23 : decode cX5_read 23 = .ok (.bipush (-2), 2) := by decide +kernel
theorem dX5_read_25 : decode cX5_read 25 = .ok (.ireturn, 1) := by decide +kernel
theorem dX5_read_26 : decode cX5_read 26 = .ok (.aload_n 0, 1) := by decide +kernel
theorem dX5_read_27 : decode cX5_read 27 = .ok (.invokevirtual 84, 3) := by decide +kernel
theorem dX5_read_30 : decode cX5_read 30 = .ok (.aload_n 0, 1) := by decide +kernel
theorem dX5_read_31 : decode cX5_read 31 = .ok (.aload_n 0, 1) := by decide +kernel
theorem dX5_read_32 : decode cX5_read 32 = .ok (.iload_n 1, 1) := by decide +kernel
theorem dX5_read_33 : decode cX5_read 33 = .ok (.iload_n 2, 1) := by decide +kernel
theorem dX5_read_34 : decode cX5_read 34 = .ok (.invokevirtual 96, 3) := by decide +kernel
theorem dX5_read_37 : decode cX5_read 37 = .ok (.invokevirtual 90, 3) := by decide +kernel
theorem dX5_read_40 : decode cX5_read 40 = .ok (.ireturn, 1) := by decide +kernel
theorem dX5_pin_0 : decode cX5_pin 0 = .ok (.aload_n 0, 1) := by decide +kernel
theorem dX5_pin_1 : decode cX5_pin 1 = .ok (.iconst 0, 1) := by decide +kernel
theorem dX5_pin_2 : decode cX5_pin 2 = .ok (.iload_n 1, 1) := by decide +kernel
theorem dX5_pin_3 : decode cX5_pin 3 = .ok (.invokevirtual 65, 3) := by decide +kernel
theorem dX5_pin_6 : decode cX5_pin 6 = .ok (.istore_n 3, 1) := by decide +kernel
theorem dX5_pin_7 : decode cX5_pin 7 = .ok (.iload_n 3, 1) := by decide +kernel
theorem dX5_pin_8 : decode cX5_pin 8 = .ok (.bipush (-5), 2) := by decide +kernel
theorem dX5_pin_10 : decode cX5_pin 10 = .ok (.if_icmp .ne 5, 3) := by decide +kernel
theorem dX5_pin_13 : decode cX5_pin 13 = .ok (.iconst (-1), 1) := by decide +kernel
theorem dX5_pin_14 : decode cX5_pin 14 = .ok (.ireturn, 1) := by decide +kernel
theorem dX5_pin_15 : decode cX5_pin 15 = .ok (.aload_n 0, 1) := by decide +kernel
theorem dX5_pin_16 : decode cX5_pin 16 = .ok (.getfield 7, 3) := by decide +kernel
theorem dX5_pin_19 : decode cX5_pin 19 = .ok (.iconst 0, 1) := by decide +kernel
theorem dX5_pin_20 : decode cX5_pin 20 = .ok (.iload_n 3, 1) := by decide +kernel
theorem dX5_pin_21 : decode cX5_pin 21 = .ok (.invokestatic 32, 3) := by decide +kernel
theorem dX5_pin_24 : decode cX5_pin 24 = .ok (.iconst 4, 1) := by decide +kernel
theorem dX5_pin_25 : decode cX5_pin 25 = .ok (.iadd, 1) := by decide +kernel
theorem dX5_pin_26 : decode cX5_pin 26 = .ok (.iaload, 1) := by decide +kernel
theorem dX5_pin_27 : decode cX5_pin 27 = .ok (.iload_n 2, 1) := by decide +kernel
theorem dX5_pin_28 : decode cX5_pin 28 = .ok (.ifCond .eq 7, 3) := by decide +kernel
theorem dX5_pin_31 : decode cX5_pin 31 = .ok (.iconst 1, 1) := by decide +kernel
theorem dX5_pin_32 : decode cX5_pin 32 = .ok (.goto 4, 3) := by decide +kernel
theorem dX5_pin_35 : decode cX5_pin 35 = .ok (.iconst 0, 1) := by decide +kernel
theorem dX5_pin_36 : decode cX5_pin 36 = .ok (.if_icmp .ne 6, 3) := by decide +kernel
theorem dX5_pin_39 : decode cX5_pin 39 = .ok (.bipush (-5), 2) := by decide +kernel
theorem dX5_pin_41 : decode cX5_pin 41 = .ok (.ireturn, 1) := by decide +kernel
theorem dX5_pin_42 : decode cX5_pin 42 = .ok (.aload_n 0, 1) := by decide +kernel
theorem dX5_pin_43 : decode cX5_pin 43 = .ok (.invokevirtual 84, 3) := by decide +kernel
theorem dX5_pin_46 : decode cX5_pin 46 = .ok (.aload_n 0, 1) := by decide +kernel
theorem dX5_pin_47 : decode cX5_pin 47 = .ok (.aload_n 0, 1) := by decide +kernel
theorem dX5_pin_48 : decode cX5_pin 48 = .ok (.iload_n 1, 1) := by decide +kernel
theorem dX5_pin_49 : decode cX5_pin 49 = .ok (.invokevirtual 99, 3) := by decide +kernel
theorem dX5_pin_52 : decode cX5_pin 52 = .ok (.invokevirtual 90, 3) := by decide +kernel
theorem dX5_pin_55 : decode cX5_pin 55 = .ok (.ireturn, 1) := by decide +kernel
theorem dX5_pass_0 : decode cX5_pass 0 = .ok (.iload_n 1, 1) := by decide +kernel
theorem dX5_pass_1 : decode cX5_pass 1 = .ok (.iconst 1, 1) := by decide +kernel
theorem dX5_pass_2 : decode cX5_pass 2 = .ok (.bipush 99, 2) := by decide +kernel
theorem dX5_pass_4 : decode cX5_pass 4 = .ok (.invokestatic 81, 3) := by decide +kernel
theorem dX5_pass_7 : decode cX5_pass 7 = .ok (.ifCond .ne 6, 3) := by decide +kernel
theorem dX5_pass_10 : decode cX5_pass 10 = .ok (.bipush (-2), 2) := by decide +kernel
theorem dX5_pass_12 : decode cX5_pass 12 = .ok (.ireturn, 1) := by decide +kernel
theorem dX5_pass_13 : decode cX5_pass 13 = .ok (.aload_n 0, 1) := by decide +kernel
theorem dX5_pass_14 : decode cX5_pass 14 = .ok (.invokevirtual 84, 3) := by decide +kernel
theorem dX5_pass_17 : decode cX5_pass 17 = .ok (.aload_n 0, 1) := by decide +kernel
theorem dX5_pass_18 : decode cX5_pass 18 = .ok (.aload_n 0, 1) := by decide +kernel
theorem dX5_pass_19 : decode cX5_pass 19 = .ok (.iload_n 1, 1) := by decide +kernel
theorem dX5_pass_20 : decode cX5_pass 20 = .ok (.invokevirtual 102, 3) := by decide +kernel
theorem dX5_pass_23 : decode cX5_pass 23 = .ok (.invokevirtual 90, 3) := by decide +kernel
theorem dX5_pass_26 : decode cX5_pass 26 = .ok (.ireturn, 1) := by decide +kernel
theorem dX5_mostOf_0 : decode cX5_mostOf 0 = .ok (.iload_n 0, 1) := by decide +kernel
theorem dX5_mostOf_1 : decode cX5_mostOf 1 = .ok (.tableswitch 68 0 8 #[51, 54, 54, 58, 61, 68, 64, 64, 64], 51) := by decide +kernel
theorem dX5_mostOf_52 : decode cX5_mostOf 52 = .ok (.bipush 100, 2) := by decide +kernel
theorem dX5_mostOf_54 : decode cX5_mostOf 54 = .ok (.ireturn, 1) := by decide +kernel
theorem dX5_mostOf_55 : decode cX5_mostOf 55 = .ok (.sipush 20000, 3) := by decide +kernel
theorem dX5_mostOf_58 : decode cX5_mostOf 58 = .ok (.ireturn, 1) := by decide +kernel
theorem dX5_mostOf_59 : decode cX5_mostOf 59 = .ok (.bipush 24, 2) := by decide +kernel
theorem dX5_mostOf_61 : decode cX5_mostOf 61 = .ok (.ireturn, 1) := by decide +kernel
theorem dX5_mostOf_62 : decode cX5_mostOf 62 = .ok (.bipush 30, 2) := by decide +kernel
theorem dX5_mostOf_64 : decode cX5_mostOf 64 = .ok (.ireturn, 1) := by decide +kernel
theorem dX5_mostOf_65 : decode cX5_mostOf 65 = .ok (.sipush 200, 3) := by decide +kernel
theorem dX5_mostOf_68 : decode cX5_mostOf 68 = .ok (.ireturn, 1) := by decide +kernel
theorem dX5_mostOf_69 : decode cX5_mostOf 69 = .ok (.bipush 50, 2) := by decide +kernel
theorem dX5_mostOf_71 : decode cX5_mostOf 71 = .ok (.ireturn, 1) := by decide +kernel
theorem dX5_set_0 : decode cX5_set 0 = .ok (.iload_n 1, 1) := by decide +kernel
theorem dX5_set_1 : decode cX5_set 1 = .ok (.iconst 0, 1) := by decide +kernel
theorem dX5_set_2 : decode cX5_set 2 = .ok (.bipush 14, 2) := by decide +kernel
theorem dX5_set_4 : decode cX5_set 4 = .ok (.invokestatic 81, 3) := by decide +kernel
theorem dX5_set_7 : decode cX5_set 7 = .ok (.ifCond .ne 5, 3) := by decide +kernel
theorem dX5_set_10 : decode cX5_set 10 = .ok (.iconst (-1), 1) := by decide +kernel
theorem dX5_set_11 : decode cX5_set 11 = .ok (.ireturn, 1) := by decide +kernel
theorem dX5_set_12 : decode cX5_set 12 = .ok (.iload_n 2, 1) := by decide +kernel
theorem dX5_set_13 : decode cX5_set 13 = .ok (.iconst 0, 1) := by decide +kernel
theorem dX5_set_14 : decode cX5_set 14 = .ok (.iload_n 1, 1) := by decide +kernel
theorem dX5_set_15 : decode cX5_set 15 = .ok (.invokestatic 105, 3) := by decide +kernel
theorem dX5_set_18 : decode cX5_set 18 = .ok (.invokestatic 81, 3) := by decide +kernel
theorem dX5_set_21 : decode cX5_set 21 = .ok (.ifCond .ne 6, 3) := by decide +kernel
theorem dX5_set_24 : decode cX5_set 24 = .ok (.bipush (-2), 2) := by decide +kernel
theorem dX5_set_26 : decode cX5_set 26 = .ok (.ireturn, 1) := by decide +kernel
theorem dX5_set_27 : decode cX5_set 27 = .ok (.iload_n 1, 1) := by decide +kernel
theorem dX5_set_28 : decode cX5_set 28 = .ok (.iconst 1, 1) := by decide +kernel
theorem dX5_set_29 : decode cX5_set 29 = .ok (.if_icmp .ne 13, 3) := by decide +kernel
theorem dX5_set_32 : decode cX5_set 32 = .ok (.iload_n 2, 1) := by decide +kernel
theorem dX5_set_33 : decode cX5_set 33 = .ok (.aload_n 0, 1) := by decide +kernel
theorem dX5_set_34 : decode cX5_set 34 = .ok (.getfield 7, 3) := by decide +kernel
theorem dX5_set_37 : decode cX5_set 37 = .ok (.iconst 2, 1) := by decide +kernel
theorem dX5_set_38 : decode cX5_set 38 = .ok (.iaload, 1) := by decide +kernel
theorem dX5_set_39 : decode cX5_set 39 = .ok (.if_icmp .lt 18, 3) := by decide +kernel
theorem dX5_set_42 : decode cX5_set 42 = .ok (.iload_n 1, 1) := by decide +kernel
theorem dX5_set_43 : decode cX5_set 43 = .ok (.iconst 2, 1) := by decide +kernel
theorem dX5_set_44 : decode cX5_set 44 = .ok (.if_icmp .ne 17, 3) := by decide +kernel
theorem dX5_set_47 : decode cX5_set 47 = .ok (.iload_n 2, 1) := by decide +kernel
theorem dX5_set_48 : decode cX5_set 48 = .ok (.aload_n 0, 1) := by decide +kernel
theorem dX5_set_49 : decode cX5_set 49 = .ok (.getfield 7, 3) := by decide +kernel
theorem dX5_set_52 : decode cX5_set 52 = .ok (.iconst 1, 1) := by decide +kernel
theorem dX5_set_53 : decode cX5_set 53 = .ok (.iaload, 1) := by decide +kernel
theorem dX5_set_54 : decode cX5_set 54 = .ok (.if_icmp .le 7, 3) := by decide +kernel
theorem dX5_set_57 : decode cX5_set 57 = .ok (.iconst 1, 1) := by decide +kernel
theorem dX5_set_58 : decode cX5_set 58 = .ok (.goto 4, 3) := by decide +kernel
theorem dX5_set_61 : decode cX5_set 61 = .ok (.iconst 0, 1) := by decide +kernel
theorem dX5_set_62 : decode cX5_set 62 = .ok (.istore_n 3, 1) := by decide +kernel
theorem dX5_set_63 : decode cX5_set 63 = .ok (.iload_n 3, 1) := by decide +kernel
theorem dX5_set_64 : decode cX5_set 64 = .ok (.ifCond .ne 28, 3) := by decide +kernel
theorem dX5_set_67 : decode cX5_set 67 = .ok (.iload_n 1, 1) := by decide +kernel
theorem dX5_set_68 : decode cX5_set 68 = .ok (.bipush 6, 2) := by decide +kernel
theorem dX5_set_70 : decode cX5_set 70 = .ok (.bipush 8, 2) := by decide +kernel
theorem dX5_set_72 : decode cX5_set 72 = .ok (.invokestatic 81, 3) := by decide +kernel
theorem dX5_set_75 : decode cX5_set 75 = .ok (.ifCond .eq 20, 3) := by decide +kernel
theorem dX5_set_78 : decode cX5_set 78 = .ok (.aload_n 0, 1) := by decide +kernel
theorem dX5_set_79 : decode cX5_set 79 = .ok (.iconst 0, 1) := by decide +kernel
theorem dX5_set_80 : decode cX5_set 80 = .ok (.iload_n 1, 1) := by decide +kernel
theorem dX5_set_81 : decode cX5_set 81 = .ok (.bipush 6, 2) := by decide +kernel
theorem dX5_set_83 : decode cX5_set 83 = .ok (.isub, 1) := by decide +kernel
theorem dX5_set_84 : decode cX5_set 84 = .ok (.iconst 1, 1) := by decide +kernel
theorem dX5_set_85 : decode cX5_set 85 = .ok (.invokevirtual 36, 3) := by decide +kernel
theorem dX5_set_88 : decode cX5_set 88 = .ok (.iload_n 2, 1) := by decide +kernel
theorem dX5_set_89 : decode cX5_set 89 = .ok (.if_icmp .le 6, 3) := by decide +kernel
theorem dX5_set_92 : decode cX5_set 92 = .ok (.bipush (-4), 2) := by decide +kernel
theorem dX5_set_94 : decode cX5_set 94 = .ok (.ireturn, 1) := by decide +kernel
theorem dX5_set_95 : decode cX5_set 95 = .ok (.aload_n 0, 1) := by decide +kernel
theorem dX5_set_96 : decode cX5_set 96 = .ok (.getfield 7, 3) := by decide +kernel
theorem dX5_set_99 : decode cX5_set 99 = .ok (.iload_n 1, 1) := by decide +kernel
theorem dX5_set_100 : decode cX5_set 100 = .ok (.iaload, 1) := by decide +kernel
theorem dX5_set_101 : decode cX5_set 101 = .ok (.istore 4, 2) := by decide +kernel
theorem dX5_set_103 : decode cX5_set 103 = .ok (.iload 4, 2) := by decide +kernel
theorem dX5_set_105 : decode cX5_set 105 = .ok (.iload_n 2, 1) := by decide +kernel
theorem dX5_set_106 : decode cX5_set 106 = .ok (.if_icmp .ne 6, 3) := by decide +kernel
theorem dX5_set_109 : decode cX5_set 109 = .ok (.bipush (-5), 2) := by decide +kernel
theorem dX5_set_111 : decode cX5_set 111 = .ok (.ireturn, 1) := by decide +kernel
theorem dX5_set_112 : decode cX5_set 112 = .ok (.aload_n 0, 1) := by decide +kernel
theorem dX5_set_113 : decode cX5_set 113 = .ok (.invokevirtual 29, 3) := by decide +kernel
theorem dX5_set_116 : decode cX5_set 116 = .ok (.aload_n 0, 1) := by decide +kernel
theorem dX5_set_117 : decode cX5_set 117 = .ok (.getfield 7, 3) := by decide +kernel
theorem dX5_set_120 : decode cX5_set 120 = .ok (.iload_n 1, 1) := by decide +kernel
theorem dX5_set_121 : decode cX5_set 121 = .ok (.iload_n 2, 1) := by decide +kernel
theorem dX5_set_122 : decode cX5_set 122 = .ok (.iastore, 1) := by decide +kernel
theorem dX5_set_123 : decode cX5_set 123 = .ok (.iload 4, 2) := by decide +kernel
theorem dX5_set_125 : decode cX5_set 125 = .ok (.ireturn, 1) := by decide +kernel
theorem dX5_type_0 : decode cX5_type 0 = .ok (.aload_n 0, 1) := by decide +kernel
theorem dX5_type_1 : decode cX5_type 1 = .ok (.getfield 108, 3) := by decide +kernel
theorem dX5_type_4 : decode cX5_type 4 = .ok (.bipush 60, 2) := by decide +kernel
theorem dX5_type_6 : decode cX5_type 6 = .ok (.if_icmp .ne 6, 3) := by decide +kernel
theorem dX5_type_9 : decode cX5_type 9 = .ok (.bipush (-3), 2) := by decide +kernel
theorem dX5_type_11 : decode cX5_type 11 = .ok (.ireturn, 1) := by decide +kernel
theorem dX5_type_12 : decode cX5_type 12 = .ok (.aload_n 0, 1) := by decide +kernel
theorem dX5_type_13 : decode cX5_type 13 = .ok (.getfield 19, 3) := by decide +kernel
theorem dX5_type_16 : decode cX5_type 16 = .ok (.aload_n 0, 1) := by decide +kernel
theorem dX5_type_17 : decode cX5_type 17 = .ok (.getfield 108, 3) := by decide +kernel
theorem dX5_type_20 : decode cX5_type 20 = .ok (.iload_n 1, 1) := by decide +kernel
theorem dX5_type_21 : decode cX5_type 21 = .ok (.iastore, 1) := by decide +kernel
theorem dX5_type_22 : decode cX5_type 22 = .ok (.aload_n 0, 1) := by decide +kernel
theorem dX5_type_23 : decode cX5_type 23 = .ok (.dup, 1) := by decide +kernel
theorem dX5_type_24 : decode cX5_type 24 = .ok (.getfield 108, 3) := by decide +kernel
theorem dX5_type_27 : decode cX5_type 27 = .ok (.iconst 1, 1) := by decide +kernel
theorem dX5_type_28 : decode cX5_type 28 = .ok (.iadd, 1) := by decide +kernel
theorem dX5_type_29 : decode cX5_type 29 = .ok (.putfield 108, 3) := by decide +kernel
theorem dX5_type_32 : decode cX5_type 32 = .ok (.aload_n 0, 1) := by decide +kernel
theorem dX5_type_33 : decode cX5_type 33 = .ok (.getfield 108, 3) := by decide +kernel
theorem dX5_type_36 : decode cX5_type 36 = .ok (.ireturn, 1) := by decide +kernel
theorem dX5_clearText_0 : decode cX5_clearText 0 = .ok (.aload_n 0, 1) := by decide +kernel
theorem dX5_clearText_1 : decode cX5_clearText 1 = .ok (.getfield 108, 3) := by decide +kernel
theorem dX5_clearText_4 : decode cX5_clearText 4 = .ok (.istore_n 1, 1) := by decide +kernel
theorem dX5_clearText_5 : decode cX5_clearText 5 = .ok (.aload_n 0, 1) := by decide +kernel
theorem dX5_clearText_6 : decode cX5_clearText 6 = .ok (.iconst 0, 1) := by decide +kernel
theorem dX5_clearText_7 : decode cX5_clearText 7 = .ok (.putfield 108, 3) := by decide +kernel
theorem dX5_clearText_10 : decode cX5_clearText 10 = .ok (.iload_n 1, 1) := by decide +kernel
theorem dX5_clearText_11 : decode cX5_clearText 11 = .ok (.ireturn, 1) := by decide +kernel
theorem dX5_sign_0 : decode cX5_sign 0 = .ok (.iload_n 1, 1) := by decide +kernel
theorem dX5_sign_1 : decode cX5_sign 1 = .ok (.aload_n 0, 1) := by decide +kernel
theorem dX5_sign_2 : decode cX5_sign 2 = .ok (.getfield 108, 3) := by decide +kernel
theorem dX5_sign_5 : decode cX5_sign 5 = .ok (.if_icmp .ge 12, 3) := by decide +kernel
theorem dX5_sign_8 : decode cX5_sign 8 = .ok (.aload_n 0, 1) := by decide +kernel
theorem dX5_sign_9 : decode cX5_sign 9 = .ok (.getfield 19, 3) := by decide +kernel
theorem dX5_sign_12 : decode cX5_sign 12 = .ok (.iload_n 1, 1) := by decide +kernel
theorem dX5_sign_13 : decode cX5_sign 13 = .ok (.iaload, 1) := by decide +kernel
theorem dX5_sign_14 : decode cX5_sign 14 = .ok (.goto 4, 3) := by decide +kernel
theorem dX5_sign_17 : decode cX5_sign 17 = .ok (.iconst (-1), 1) := by decide +kernel
theorem dX5_sign_18 : decode cX5_sign 18 = .ok (.ireturn, 1) := by decide +kernel
theorem dX5_digit_0 : decode cX5_digit 0 = .ok (.aload_n 0, 1) := by decide +kernel
theorem dX5_digit_1 : decode cX5_digit 1 = .ok (.iload_n 1, 1) := by decide +kernel
theorem dX5_digit_2 : decode cX5_digit 2 = .ok (.invokevirtual 111, 3) := by decide +kernel
theorem dX5_digit_5 : decode cX5_digit 5 = .ok (.bipush 48, 2) := by decide +kernel
theorem dX5_digit_7 : decode cX5_digit 7 = .ok (.bipush 57, 2) := by decide +kernel
theorem dX5_digit_9 : decode cX5_digit 9 = .ok (.invokestatic 81, 3) := by decide +kernel
theorem dX5_digit_12 : decode cX5_digit 12 = .ok (.ifCond .eq 14, 3) := by decide +kernel
theorem dX5_digit_15 : decode cX5_digit 15 = .ok (.aload_n 0, 1) := by decide +kernel
theorem dX5_digit_16 : decode cX5_digit 16 = .ok (.iload_n 1, 1) := by decide +kernel
theorem dX5_digit_17 : decode cX5_digit 17 = .ok (.invokevirtual 111, 3) := by decide +kernel
theorem dX5_digit_20 : decode cX5_digit 20 = .ok (.bipush 48, 2) := by decide +kernel
theorem dX5_digit_22 : decode cX5_digit 22 = .ok (.isub, 1) := by decide +kernel
theorem dX5_digit_23 : decode cX5_digit 23 = .ok (.goto 4, 3) := by decide +kernel
theorem dX5_digit_26 : decode cX5_digit 26 = .ok (.iconst (-1), 1) := by decide +kernel
theorem dX5_digit_27 : decode cX5_digit 27 = .ok (.ireturn, 1) := by decide +kernel
theorem dX5_numberEnd_0 : decode cX5_numberEnd 0 = .ok (.aload_n 0, 1) := by decide +kernel
theorem dX5_numberEnd_1 : decode cX5_numberEnd 1 = .ok (.iload_n 1, 1) := by decide +kernel
theorem dX5_numberEnd_2 : decode cX5_numberEnd 2 = .ok (.invokevirtual 114, 3) := by decide +kernel
theorem dX5_numberEnd_5 : decode cX5_numberEnd 5 = .ok (.istore 4, 2) := by decide +kernel
theorem dX5_numberEnd_7 : decode cX5_numberEnd 7 = .ok (.iload 4, 2) := by decide +kernel
theorem dX5_numberEnd_9 : decode cX5_numberEnd 9 = .ok (.iload_n 2, 1) := by decide +kernel
theorem dX5_numberEnd_10 : decode cX5_numberEnd 10 = .ok (.if_icmp .ge 7, 3) := by decide +kernel
theorem dX5_numberEnd_13 : decode cX5_numberEnd 13 = .ok (.iconst (-1), 1) := by decide +kernel
theorem dX5_numberEnd_14 : decode cX5_numberEnd 14 = .ok (.iload_n 1, 1) := by decide +kernel
theorem dX5_numberEnd_15 : decode cX5_numberEnd 15 = .ok (.isub, 1) := by decide +kernel
theorem dX5_numberEnd_16 : decode cX5_numberEnd 16 = .ok (.ireturn, 1) := by decide +kernel
theorem dX5_numberEnd_17 : decode cX5_numberEnd 17 = .ok (.iload_n 1, 1) := by decide +kernel
theorem dX5_numberEnd_18 : decode cX5_numberEnd 18 = .ok (.iconst 1, 1) := by decide +kernel
theorem dX5_numberEnd_19 : decode cX5_numberEnd 19 = .ok (.iadd, 1) := by decide +kernel
theorem dX5_numberEnd_20 : decode cX5_numberEnd 20 = .ok (.istore 5, 2) := by decide +kernel
theorem dX5_numberEnd_22 : decode cX5_numberEnd 22 = .ok (.iload 4, 2) := by decide +kernel
theorem dX5_numberEnd_24 : decode cX5_numberEnd 24 = .ok (.ifCond .le 48, 3) := by decide +kernel
theorem dX5_numberEnd_27 : decode cX5_numberEnd 27 = .ok (.aload_n 0, 1) := by decide +kernel
theorem dX5_numberEnd_28 : decode cX5_numberEnd 28 = .ok (.iload 5, 2) := by decide +kernel
theorem dX5_numberEnd_30 : decode cX5_numberEnd 30 = .ok (.invokevirtual 114, 3) := by decide +kernel
theorem dX5_numberEnd_33 : decode cX5_numberEnd 33 = .ok (.ifCond .lt 39, 3) := by decide +kernel
theorem dX5_numberEnd_36 : decode cX5_numberEnd 36 = .ok (.bipush 10, 2) := by decide +kernel
theorem dX5_numberEnd_38 : decode cX5_numberEnd 38 = .ok (.iload 4, 2) := by decide +kernel
theorem dX5_numberEnd_40 : decode cX5_numberEnd 40 = .ok (.imul, 1) := by decide +kernel
theorem dX5_numberEnd_41 : decode cX5_numberEnd 41 = .ok (.aload_n 0, 1) := by decide +kernel
theorem dX5_numberEnd_42 : decode cX5_numberEnd 42 = .ok (.iload 5, 2) := by decide +kernel
theorem dX5_numberEnd_44 : decode cX5_numberEnd 44 = .ok (.invokevirtual 114, 3) := by decide +kernel
theorem dX5_numberEnd_47 : decode cX5_numberEnd 47 = .ok (.iadd, 1) := by decide +kernel
theorem dX5_numberEnd_48 : decode cX5_numberEnd 48 = .ok (.iload_n 3, 1) := by decide +kernel
theorem dX5_numberEnd_49 : decode cX5_numberEnd 49 = .ok (.if_icmp .gt 23, 3) := by decide +kernel
theorem dX5_numberEnd_52 : decode cX5_numberEnd 52 = .ok (.bipush 10, 2) := by decide +kernel
theorem dX5_numberEnd_54 : decode cX5_numberEnd 54 = .ok (.iload 4, 2) := by decide +kernel
theorem dX5_numberEnd_56 : decode cX5_numberEnd 56 = .ok (.imul, 1) := by decide +kernel
theorem dX5_numberEnd_57 : decode cX5_numberEnd 57 = .ok (.aload_n 0, 1) := by decide +kernel
theorem dX5_numberEnd_58 : decode cX5_numberEnd 58 = .ok (.iload 5, 2) := by decide +kernel
theorem dX5_numberEnd_60 : decode cX5_numberEnd 60 = .ok (.invokevirtual 114, 3) := by decide +kernel
theorem dX5_numberEnd_63 : decode cX5_numberEnd 63 = .ok (.iadd, 1) := by decide +kernel
theorem dX5_numberEnd_64 : decode cX5_numberEnd 64 = .ok (.istore 4, 2) := by decide +kernel
theorem dX5_numberEnd_66 : decode cX5_numberEnd 66 = .ok (.iinc 5 1, 3) := by decide +kernel
theorem dX5_numberEnd_69 : decode cX5_numberEnd 69 = .ok (.goto (-47), 3) := by decide +kernel
theorem dX5_numberEnd_72 : decode cX5_numberEnd 72 = .ok (.iload 5, 2) := by decide +kernel
theorem dX5_numberEnd_74 : decode cX5_numberEnd 74 = .ok (.ireturn, 1) := by decide +kernel
theorem dX5_numberAt_0 : decode cX5_numberAt 0 = .ok (.iconst 0, 1) := by decide +kernel
theorem dX5_numberAt_1 : decode cX5_numberAt 1 = .ok (.istore_n 2, 1) := by decide +kernel
theorem dX5_numberAt_2 : decode cX5_numberAt 2 = .ok (.iload_n 1, 1) := by decide +kernel
theorem dX5_numberAt_3 : decode cX5_numberAt 3 = .ok (.istore_n 3, 1) := by decide +kernel
theorem dX5_numberAt_4 : decode cX5_numberAt 4 = .ok (.aload_n 0, 1) := by decide +kernel
theorem dX5_numberAt_5 : decode cX5_numberAt 5 = .ok (.iload_n 3, 1) := by decide +kernel
theorem dX5_numberAt_6 : decode cX5_numberAt 6 = .ok (.invokevirtual 114, 3) := by decide +kernel
theorem dX5_numberAt_9 : decode cX5_numberAt 9 = .ok (.ifCond .lt 20, 3) := by decide +kernel
theorem dX5_numberAt_12 : decode cX5_numberAt 12 = .ok (.bipush 10, 2) := by decide +kernel
theorem dX5_numberAt_14 : decode cX5_numberAt 14 = .ok (.iload_n 2, 1) := by decide +kernel
theorem dX5_numberAt_15 : decode cX5_numberAt 15 = .ok (.imul, 1) := by decide +kernel
theorem dX5_numberAt_16 : decode cX5_numberAt 16 = .ok (.aload_n 0, 1) := by decide +kernel
theorem dX5_numberAt_17 : decode cX5_numberAt 17 = .ok (.iload_n 3, 1) := by decide +kernel
theorem dX5_numberAt_18 : decode cX5_numberAt 18 = .ok (.invokevirtual 114, 3) := by decide +kernel
theorem dX5_numberAt_21 : decode cX5_numberAt 21 = .ok (.iadd, 1) := by decide +kernel
theorem dX5_numberAt_22 : decode cX5_numberAt 22 = .ok (.istore_n 2, 1) := by decide +kernel
theorem dX5_numberAt_23 : decode cX5_numberAt 23 = .ok (.iinc 3 1, 3) := by decide +kernel
theorem dX5_numberAt_26 : decode cX5_numberAt 26 = .ok (.goto (-22), 3) := by decide +kernel
theorem dX5_numberAt_29 : decode cX5_numberAt 29 = .ok (.iload_n 2, 1) := by decide +kernel
theorem dX5_numberAt_30 : decode cX5_numberAt 30 = .ok (.ireturn, 1) := by decide +kernel
theorem dX5_orderEnd_0 : decode cX5_orderEnd 0 = .ok (.aload_n 0, 1) := by decide +kernel
theorem dX5_orderEnd_1 : decode cX5_orderEnd 1 = .ok (.iload_n 1, 1) := by decide +kernel
theorem dX5_orderEnd_2 : decode cX5_orderEnd 2 = .ok (.invokevirtual 111, 3) := by decide +kernel
theorem dX5_orderEnd_5 : decode cX5_orderEnd 5 = .ok (.lookupswitch 126 #[(43, 51), (45, 62), (110, 115), (112, 62), (114, 74)], 51) := by decide +kernel
theorem dX5_orderEnd_56 : decode cX5_orderEnd 56 = .ok (.aload_n 0, 1) := by decide +kernel
theorem dX5_orderEnd_57 : decode cX5_orderEnd 57 = .ok (.iload_n 1, 1) := by decide +kernel
theorem dX5_orderEnd_58 : decode cX5_orderEnd 58 = .ok (.iconst 1, 1) := by decide +kernel
theorem dX5_orderEnd_59 : decode cX5_orderEnd 59 = .ok (.iadd, 1) := by decide +kernel
theorem dX5_orderEnd_60 : decode cX5_orderEnd 60 = .ok (.iconst 1, 1) := by decide +kernel
theorem dX5_orderEnd_61 : decode cX5_orderEnd 61 = .ok (.bipush 9, 2) := by decide +kernel
theorem dX5_orderEnd_63 : decode cX5_orderEnd 63 = .ok (.invokevirtual 117, 3) := by decide +kernel
theorem dX5_orderEnd_66 : decode cX5_orderEnd 66 = .ok (.ireturn, 1) := by decide +kernel
theorem dX5_orderEnd_67 : decode cX5_orderEnd 67 = .ok (.aload_n 0, 1) := by decide +kernel
theorem dX5_orderEnd_68 : decode cX5_orderEnd 68 = .ok (.iload_n 1, 1) := by decide +kernel
theorem dX5_orderEnd_69 : decode cX5_orderEnd 69 = .ok (.iconst 1, 1) := by decide +kernel
theorem dX5_orderEnd_70 : decode cX5_orderEnd 70 = .ok (.iadd, 1) := by decide +kernel
theorem dX5_orderEnd_71 : decode cX5_orderEnd 71 = .ok (.iconst 0, 1) := by decide +kernel
theorem dX5_orderEnd_72 : decode cX5_orderEnd 72 = .ok (.sipush 999, 3) := by decide +kernel
theorem dX5_orderEnd_75 : decode cX5_orderEnd 75 = .ok (.invokevirtual 117, 3) := by decide +kernel
theorem dX5_orderEnd_78 : decode cX5_orderEnd 78 = .ok (.ireturn, 1) := by decide +kernel
theorem dX5_orderEnd_79 : decode cX5_orderEnd 79 = .ok (.aload_n 0, 1) := by decide +kernel
theorem dX5_orderEnd_80 : decode cX5_orderEnd 80 = .ok (.iload_n 1, 1) := by decide +kernel
theorem dX5_orderEnd_81 : decode cX5_orderEnd 81 = .ok (.iconst 1, 1) := by decide +kernel
theorem dX5_orderEnd_82 : decode cX5_orderEnd 82 = .ok (.iadd, 1) := by decide +kernel
theorem dX5_orderEnd_83 : decode cX5_orderEnd 83 = .ok (.iconst 0, 1) := by decide +kernel
theorem dX5_orderEnd_84 : decode cX5_orderEnd 84 = .ok (.sipush 999, 3) := by decide +kernel
theorem dX5_orderEnd_87 : decode cX5_orderEnd 87 = .ok (.invokevirtual 117, 3) := by decide +kernel
theorem dX5_orderEnd_90 : decode cX5_orderEnd 90 = .ok (.istore_n 2, 1) := by decide +kernel
theorem dX5_orderEnd_91 : decode cX5_orderEnd 91 = .ok (.iload_n 2, 1) := by decide +kernel
theorem dX5_orderEnd_92 : decode cX5_orderEnd 92 = .ok (.ifCond .le 26, 3) := by decide +kernel
theorem dX5_orderEnd_95 : decode cX5_orderEnd 95 = .ok (.aload_n 0, 1) := by decide +kernel
theorem dX5_orderEnd_96 : decode cX5_orderEnd 96 = .ok (.iload_n 2, 1) := by decide +kernel
theorem dX5_orderEnd_97 : decode cX5_orderEnd 97 = .ok (.invokevirtual 111, 3) := by decide +kernel
theorem dX5_orderEnd_100 : decode cX5_orderEnd 100 = .ok (.bipush 42, 2) := by decide +kernel
theorem dX5_orderEnd_102 : decode cX5_orderEnd 102 = .ok (.if_icmp .ne 16, 3) := by decide +kernel
theorem dX5_orderEnd_105 : decode cX5_orderEnd 105 = .ok (.aload_n 0, 1) := by decide +kernel
theorem dX5_orderEnd_106 : decode cX5_orderEnd 106 = .ok (.iload_n 2, 1) := by decide +kernel
theorem dX5_orderEnd_107 : decode cX5_orderEnd 107 = .ok (.iconst 1, 1) := by decide +kernel
theorem dX5_orderEnd_108 : decode cX5_orderEnd 108 = .ok (.iadd, 1) := by decide +kernel
theorem dX5_orderEnd_109 : decode cX5_orderEnd 109 = .ok (.iconst 1, 1) := by decide +kernel
theorem dX5_orderEnd_110 : decode cX5_orderEnd 110 = .ok (.bipush 99, 2) := by decide +kernel
theorem dX5_orderEnd_112 : decode cX5_orderEnd 112 = .ok (.invokevirtual 117, 3) := by decide +kernel
theorem dX5_orderEnd_115 : decode cX5_orderEnd 115 = .ok (.goto 4, 3) := by decide +kernel
theorem dX5_orderEnd_118 : decode cX5_orderEnd 118 = .ok (.iload_n 2, 1) := by decide +kernel
theorem dX5_orderEnd_119 : decode cX5_orderEnd 119 = .ok (.ireturn, 1) := by decide +kernel
theorem dX5_orderEnd_120 : decode cX5_orderEnd 120 = .ok (.aload_n 0, 1) := by decide +kernel
theorem dX5_orderEnd_121 : decode cX5_orderEnd 121 = .ok (.iload_n 1, 1) := by decide +kernel
theorem dX5_orderEnd_122 : decode cX5_orderEnd 122 = .ok (.iconst 1, 1) := by decide +kernel
theorem dX5_orderEnd_123 : decode cX5_orderEnd 123 = .ok (.iadd, 1) := by decide +kernel
theorem dX5_orderEnd_124 : decode cX5_orderEnd 124 = .ok (.iconst 1, 1) := by decide +kernel
theorem dX5_orderEnd_125 : decode cX5_orderEnd 125 = .ok (.bipush 99, 2) := by decide +kernel
theorem dX5_orderEnd_127 : decode cX5_orderEnd 127 = .ok (.invokevirtual 117, 3) := by decide +kernel
theorem dX5_orderEnd_130 : decode cX5_orderEnd 130 = .ok (.ireturn, 1) := by decide +kernel
theorem dX5_orderEnd_131 : decode cX5_orderEnd 131 = .ok (.iconst (-1), 1) := by decide +kernel
theorem dX5_orderEnd_132 : decode cX5_orderEnd 132 = .ok (.iload_n 1, 1) := by decide +kernel
theorem dX5_orderEnd_133 : decode cX5_orderEnd 133 = .ok (.isub, 1) := by decide +kernel
theorem dX5_orderEnd_134 : decode cX5_orderEnd 134 = .ok (.ireturn, 1) := by decide +kernel
theorem dX5_fault_0 : decode cX5_fault 0 = .ok (.iconst 0, 1) := by decide +kernel
theorem dX5_fault_1 : decode cX5_fault 1 = .ok (.istore_n 1, 1) := by decide +kernel
theorem dX5_fault_2 : decode cX5_fault 2 = .ok (.iconst 0, 1) := by decide +kernel
theorem dX5_fault_3 : decode cX5_fault 3 = .ok (.istore_n 2, 1) := by decide +kernel
theorem dX5_fault_4 : decode cX5_fault 4 = .ok (.iload_n 2, 1) := by decide +kernel
theorem dX5_fault_5 : decode cX5_fault 5 = .ok (.bipush 60, 2) := by decide +kernel
theorem dX5_fault_7 : decode cX5_fault 7 = .ok (.if_icmp .ge 50, 3) := by decide +kernel
theorem dX5_fault_10 : decode cX5_fault 10 = .ok (.aload_n 0, 1) := by decide +kernel
theorem dX5_fault_11 : decode cX5_fault 11 = .ok (.iload_n 1, 1) := by decide +kernel
theorem dX5_fault_12 : decode cX5_fault 12 = .ok (.invokevirtual 120, 3) := by decide +kernel
theorem dX5_fault_15 : decode cX5_fault 15 = .ok (.istore_n 3, 1) := by decide +kernel
theorem dX5_fault_16 : decode cX5_fault 16 = .ok (.iload_n 3, 1) := by decide +kernel
theorem dX5_fault_17 : decode cX5_fault 17 = .ok (.ifCond .ge 7, 3) := by decide +kernel
theorem dX5_fault_20 : decode cX5_fault 20 = .ok (.iconst (-1), 1) := by decide +kernel
theorem dX5_fault_21 : decode cX5_fault 21 = .ok (.iload_n 3, 1) := by decide +kernel
theorem dX5_fault_22 : decode cX5_fault 22 = .ok (.isub, 1) := by decide +kernel
theorem dX5_fault_23 : decode cX5_fault 23 = .ok (.ireturn, 1) := by decide +kernel
theorem dX5_fault_24 : decode cX5_fault 24 = .ok (.iload_n 3, 1) := by decide +kernel
theorem dX5_fault_25 : decode cX5_fault 25 = .ok (.aload_n 0, 1) := by decide +kernel
theorem dX5_fault_26 : decode cX5_fault 26 = .ok (.getfield 108, 3) := by decide +kernel
theorem dX5_fault_29 : decode cX5_fault 29 = .ok (.if_icmp .ne 6, 3) := by decide +kernel
theorem dX5_fault_32 : decode cX5_fault 32 = .ok (.bipush (-5), 2) := by decide +kernel
theorem dX5_fault_34 : decode cX5_fault 34 = .ok (.ireturn, 1) := by decide +kernel
theorem dX5_fault_35 : decode cX5_fault 35 = .ok (.aload_n 0, 1) := by decide +kernel
theorem dX5_fault_36 : decode cX5_fault 36 = .ok (.iload_n 3, 1) := by decide +kernel
theorem dX5_fault_37 : decode cX5_fault 37 = .ok (.invokevirtual 111, 3) := by decide +kernel
theorem dX5_fault_40 : decode cX5_fault 40 = .ok (.bipush 44, 2) := by decide +kernel
theorem dX5_fault_42 : decode cX5_fault 42 = .ok (.if_icmp .eq 5, 3) := by decide +kernel
theorem dX5_fault_45 : decode cX5_fault 45 = .ok (.iload_n 3, 1) := by decide +kernel
theorem dX5_fault_46 : decode cX5_fault 46 = .ok (.ireturn, 1) := by decide +kernel
theorem dX5_fault_47 : decode cX5_fault 47 = .ok (.iload_n 3, 1) := by decide +kernel
theorem dX5_fault_48 : decode cX5_fault 48 = .ok (.iconst 1, 1) := by decide +kernel
theorem dX5_fault_49 : decode cX5_fault 49 = .ok (.iadd, 1) := by decide +kernel
theorem dX5_fault_50 : decode cX5_fault 50 = .ok (.istore_n 1, 1) := by decide +kernel
theorem dX5_fault_51 : decode cX5_fault 51 = .ok (.iinc 2 1, 3) := by decide +kernel
theorem dX5_fault_54 : decode cX5_fault 54 = .ok (.goto (-50), 3) := by decide +kernel
theorem dX5_fault_57 : decode cX5_fault 57 = .ok (.bipush (-5), 2) := by decide +kernel
theorem dX5_fault_59 : decode cX5_fault 59 = .ok (.ireturn, 1) := by decide +kernel
theorem dX5_does_0 : decode cX5_does 0 = .ok (.aload_n 0, 1) := by decide +kernel
theorem dX5_does_1 : decode cX5_does 1 = .ok (.iload_n 1, 1) := by decide +kernel
theorem dX5_does_2 : decode cX5_does 2 = .ok (.iconst 1, 1) := by decide +kernel
theorem dX5_does_3 : decode cX5_does 3 = .ok (.iadd, 1) := by decide +kernel
theorem dX5_does_4 : decode cX5_does 4 = .ok (.invokevirtual 123, 3) := by decide +kernel
theorem dX5_does_7 : decode cX5_does 7 = .ok (.istore_n 2, 1) := by decide +kernel
theorem dX5_does_8 : decode cX5_does 8 = .ok (.aload_n 0, 1) := by decide +kernel
theorem dX5_does_9 : decode cX5_does 9 = .ok (.iload_n 1, 1) := by decide +kernel
theorem dX5_does_10 : decode cX5_does 10 = .ok (.invokevirtual 111, 3) := by decide +kernel
theorem dX5_does_13 : decode cX5_does 13 = .ok (.lookupswitch 100 #[(43, 43), (45, 49), (112, 94), (114, 55)], 43) := by decide +kernel
theorem dX5_does_56 : decode cX5_does 56 = .ok (.aload_n 0, 1) := by decide +kernel
theorem dX5_does_57 : decode cX5_does 57 = .ok (.iload_n 2, 1) := by decide +kernel
theorem dX5_does_58 : decode cX5_does 58 = .ok (.invokevirtual 87, 3) := by decide +kernel
theorem dX5_does_61 : decode cX5_does 61 = .ok (.ireturn, 1) := by decide +kernel
theorem dX5_does_62 : decode cX5_does 62 = .ok (.aload_n 0, 1) := by decide +kernel
theorem dX5_does_63 : decode cX5_does 63 = .ok (.iload_n 2, 1) := by decide +kernel
theorem dX5_does_64 : decode cX5_does 64 = .ok (.invokevirtual 93, 3) := by decide +kernel
theorem dX5_does_67 : decode cX5_does 67 = .ok (.ireturn, 1) := by decide +kernel
theorem dX5_does_68 : decode cX5_does 68 = .ok (.aload_n 0, 1) := by decide +kernel
theorem dX5_does_69 : decode cX5_does 69 = .ok (.iload_n 1, 1) := by decide +kernel
theorem dX5_does_70 : decode cX5_does 70 = .ok (.iconst 1, 1) := by decide +kernel
theorem dX5_does_71 : decode cX5_does 71 = .ok (.iadd, 1) := by decide +kernel
theorem dX5_does_72 : decode cX5_does 72 = .ok (.iconst 0, 1) := by decide +kernel
theorem dX5_does_73 : decode cX5_does 73 = .ok (.sipush 999, 3) := by decide +kernel
theorem dX5_does_76 : decode cX5_does 76 = .ok (.invokevirtual 117, 3) := by decide +kernel
theorem dX5_does_79 : decode cX5_does 79 = .ok (.istore_n 3, 1) := by decide +kernel
theorem dX5_does_80 : decode cX5_does 80 = .ok (.aload_n 0, 1) := by decide +kernel
theorem dX5_does_81 : decode cX5_does 81 = .ok (.iload_n 2, 1) := by decide +kernel
theorem dX5_does_82 : decode cX5_does 82 = .ok (.aload_n 0, 1) := by decide +kernel
theorem dX5_does_83 : decode cX5_does 83 = .ok (.iload_n 3, 1) := by decide +kernel
theorem dX5_does_84 : decode cX5_does 84 = .ok (.invokevirtual 111, 3) := by decide +kernel
theorem dX5_does_87 : decode cX5_does 87 = .ok (.bipush 42, 2) := by decide +kernel
theorem dX5_does_89 : decode cX5_does 89 = .ok (.if_icmp .ne 13, 3) := by decide +kernel
theorem dX5_does_92 : decode cX5_does 92 = .ok (.aload_n 0, 1) := by decide +kernel
theorem dX5_does_93 : decode cX5_does 93 = .ok (.iload_n 3, 1) := by decide +kernel
theorem dX5_does_94 : decode cX5_does 94 = .ok (.iconst 1, 1) := by decide +kernel
theorem dX5_does_95 : decode cX5_does 95 = .ok (.iadd, 1) := by decide +kernel
theorem dX5_does_96 : decode cX5_does 96 = .ok (.invokevirtual 123, 3) := by decide +kernel
theorem dX5_does_99 : decode cX5_does 99 = .ok (.goto 4, 3) := by decide +kernel
theorem dX5_does_102 : decode cX5_does 102 = .ok (.iconst 1, 1) := by decide +kernel
theorem dX5_does_103 : decode cX5_does 103 = .ok (.invokevirtual 96, 3) := by decide +kernel
theorem dX5_does_106 : decode cX5_does 106 = .ok (.ireturn, 1) := by decide +kernel
theorem dX5_does_107 : decode cX5_does 107 = .ok (.aload_n 0, 1) := by decide +kernel
theorem dX5_does_108 : decode cX5_does 108 = .ok (.iload_n 2, 1) := by decide +kernel
theorem dX5_does_109 : decode cX5_does 109 = .ok (.invokevirtual 99, 3) := by decide +kernel
theorem dX5_does_112 : decode cX5_does 112 = .ok (.ireturn, 1) := by decide +kernel
theorem dX5_does_113 : decode cX5_does 113 = .ok (.aload_n 0, 1) := by decide +kernel
theorem dX5_does_114 : decode cX5_does 114 = .ok (.iload_n 2, 1) := by decide +kernel
theorem dX5_does_115 : decode cX5_does 115 = .ok (.invokevirtual 102, 3) := by decide +kernel
theorem dX5_does_118 : decode cX5_does 118 = .ok (.ireturn, 1) := by decide +kernel
theorem dX5_perform_0 : decode cX5_perform 0 = .ok (.aload_n 0, 1) := by decide +kernel
theorem dX5_perform_1 : decode cX5_perform 1 = .ok (.invokevirtual 126, 3) := by decide +kernel
theorem dX5_perform_4 : decode cX5_perform 4 = .ok (.istore_n 1, 1) := by decide +kernel
theorem dX5_perform_5 : decode cX5_perform 5 = .ok (.iload_n 1, 1) := by decide +kernel
theorem dX5_perform_6 : decode cX5_perform 6 = .ok (.bipush (-5), 2) := by decide +kernel
theorem dX5_perform_8 : decode cX5_perform 8 = .ok (.if_icmp .eq 8, 3) := by decide +kernel
theorem dX5_perform_11 : decode cX5_perform 11 = .ok (.bipush (-100), 2) := by decide +kernel
theorem dX5_perform_13 : decode cX5_perform 13 = .ok (.iload_n 1, 1) := by decide +kernel
theorem dX5_perform_14 : decode cX5_perform 14 = .ok (.isub, 1) := by decide +kernel
theorem dX5_perform_15 : decode cX5_perform 15 = .ok (.ireturn, 1) := by decide +kernel
theorem dX5_perform_16 : decode cX5_perform 16 = .ok (.aload_n 0, 1) := by decide +kernel
theorem dX5_perform_17 : decode cX5_perform 17 = .ok (.invokevirtual 84, 3) := by decide +kernel
theorem dX5_perform_20 : decode cX5_perform 20 = .ok (.iconst 0, 1) := by decide +kernel
theorem dX5_perform_21 : decode cX5_perform 21 = .ok (.istore_n 2, 1) := by decide +kernel
theorem dX5_perform_22 : decode cX5_perform 22 = .ok (.iconst 0, 1) := by decide +kernel
theorem dX5_perform_23 : decode cX5_perform 23 = .ok (.istore_n 3, 1) := by decide +kernel
theorem dX5_perform_24 : decode cX5_perform 24 = .ok (.iload_n 3, 1) := by decide +kernel
theorem dX5_perform_25 : decode cX5_perform 25 = .ok (.aload_n 0, 1) := by decide +kernel
theorem dX5_perform_26 : decode cX5_perform 26 = .ok (.getfield 108, 3) := by decide +kernel
theorem dX5_perform_29 : decode cX5_perform 29 = .ok (.if_icmp .ge 32, 3) := by decide +kernel
theorem dX5_perform_32 : decode cX5_perform 32 = .ok (.aload_n 0, 1) := by decide +kernel
theorem dX5_perform_33 : decode cX5_perform 33 = .ok (.iload_n 3, 1) := by decide +kernel
theorem dX5_perform_34 : decode cX5_perform 34 = .ok (.invokevirtual 130, 3) := by decide +kernel
theorem dX5_perform_37 : decode cX5_perform 37 = .ok (.istore 4, 2) := by decide +kernel
theorem dX5_perform_39 : decode cX5_perform 39 = .ok (.iload 4, 2) := by decide +kernel
theorem dX5_perform_41 : decode cX5_perform 41 = .ok (.ifCond .ge 6, 3) := by decide +kernel
theorem dX5_perform_44 : decode cX5_perform 44 = .ok (.iload 4, 2) := by decide +kernel
theorem dX5_perform_46 : decode cX5_perform 46 = .ok (.ireturn, 1) := by decide +kernel
theorem dX5_perform_47 : decode cX5_perform 47 = .ok (.iinc 2 1, 3) := by decide +kernel
theorem dX5_perform_50 : decode cX5_perform 50 = .ok (.aload_n 0, 1) := by decide +kernel
theorem dX5_perform_51 : decode cX5_perform 51 = .ok (.iload_n 3, 1) := by decide +kernel
theorem dX5_perform_52 : decode cX5_perform 52 = .ok (.invokevirtual 120, 3) := by decide +kernel
theorem dX5_perform_55 : decode cX5_perform 55 = .ok (.iconst 1, 1) := by decide +kernel
theorem dX5_perform_56 : decode cX5_perform 56 = .ok (.iadd, 1) := by decide +kernel
theorem dX5_perform_57 : decode cX5_perform 57 = .ok (.istore_n 3, 1) := by decide +kernel
theorem dX5_perform_58 : decode cX5_perform 58 = .ok (.goto (-34), 3) := by decide +kernel
theorem dX5_perform_61 : decode cX5_perform 61 = .ok (.aload_n 0, 1) := by decide +kernel
theorem dX5_perform_62 : decode cX5_perform 62 = .ok (.invokevirtual 78, 3) := by decide +kernel
theorem dX5_perform_65 : decode cX5_perform 65 = .ok (.iload_n 2, 1) := by decide +kernel
theorem dX5_perform_66 : decode cX5_perform 66 = .ok (.ireturn, 1) := by decide +kernel
theorem dX5_undo_0 : decode cX5_undo 0 = .ok (.aload_n 0, 1) := by decide +kernel
theorem dX5_undo_1 : decode cX5_undo 1 = .ok (.getfield 25, 3) := by decide +kernel
theorem dX5_undo_4 : decode cX5_undo 4 = .ok (.ifCond .ne 6, 3) := by decide +kernel
theorem dX5_undo_7 : decode cX5_undo 7 = .ok (.bipush (-5), 2) := by decide +kernel
theorem dX5_undo_9 : decode cX5_undo 9 = .ok (.ireturn, 1) := by decide +kernel
theorem dX5_undo_10 : decode cX5_undo 10 = .ok (.aload_n 0, 1) := by decide +kernel
theorem dX5_undo_11 : decode cX5_undo 11 = .ok (.dup, 1) := by decide +kernel
theorem dX5_undo_12 : decode cX5_undo 12 = .ok (.getfield 25, 3) := by decide +kernel
theorem dX5_undo_15 : decode cX5_undo 15 = .ok (.iconst 1, 1) := by decide +kernel
theorem dX5_undo_16 : decode cX5_undo 16 = .ok (.isub, 1) := by decide +kernel
theorem dX5_undo_17 : decode cX5_undo 17 = .ok (.putfield 25, 3) := by decide +kernel
theorem dX5_undo_20 : decode cX5_undo 20 = .ok (.iconst 0, 1) := by decide +kernel
theorem dX5_undo_21 : decode cX5_undo 21 = .ok (.istore_n 1, 1) := by decide +kernel
theorem dX5_undo_22 : decode cX5_undo 22 = .ok (.iload_n 1, 1) := by decide +kernel
theorem dX5_undo_23 : decode cX5_undo 23 = .ok (.sipush 215, 3) := by decide +kernel
theorem dX5_undo_26 : decode cX5_undo 26 = .ok (.if_icmp .ge 30, 3) := by decide +kernel
theorem dX5_undo_29 : decode cX5_undo 29 = .ok (.aload_n 0, 1) := by decide +kernel
theorem dX5_undo_30 : decode cX5_undo 30 = .ok (.getfield 7, 3) := by decide +kernel
theorem dX5_undo_33 : decode cX5_undo 33 = .ok (.iload_n 1, 1) := by decide +kernel
theorem dX5_undo_34 : decode cX5_undo 34 = .ok (.aload_n 0, 1) := by decide +kernel
theorem dX5_undo_35 : decode cX5_undo 35 = .ok (.getfield 13, 3) := by decide +kernel
theorem dX5_undo_38 : decode cX5_undo 38 = .ok (.sipush 215, 3) := by decide +kernel
theorem dX5_undo_41 : decode cX5_undo 41 = .ok (.aload_n 0, 1) := by decide +kernel
theorem dX5_undo_42 : decode cX5_undo 42 = .ok (.getfield 25, 3) := by decide +kernel
theorem dX5_undo_45 : decode cX5_undo 45 = .ok (.imul, 1) := by decide +kernel
theorem dX5_undo_46 : decode cX5_undo 46 = .ok (.iload_n 1, 1) := by decide +kernel
theorem dX5_undo_47 : decode cX5_undo 47 = .ok (.iadd, 1) := by decide +kernel
theorem dX5_undo_48 : decode cX5_undo 48 = .ok (.iaload, 1) := by decide +kernel
theorem dX5_undo_49 : decode cX5_undo 49 = .ok (.iastore, 1) := by decide +kernel
theorem dX5_undo_50 : decode cX5_undo 50 = .ok (.iinc 1 1, 3) := by decide +kernel
theorem dX5_undo_53 : decode cX5_undo 53 = .ok (.goto (-31), 3) := by decide +kernel
theorem dX5_undo_56 : decode cX5_undo 56 = .ok (.aload_n 0, 1) := by decide +kernel
theorem dX5_undo_57 : decode cX5_undo 57 = .ok (.getfield 25, 3) := by decide +kernel
theorem dX5_undo_60 : decode cX5_undo 60 = .ok (.ireturn, 1) := by decide +kernel
theorem dX5_keep_0 : decode cX5_keep 0 = .ok (.iconst 0, 1) := by decide +kernel
theorem dX5_keep_1 : decode cX5_keep 1 = .ok (.istore_n 1, 1) := by decide +kernel
theorem dX5_keep_2 : decode cX5_keep 2 = .ok (.iload_n 1, 1) := by decide +kernel
theorem dX5_keep_3 : decode cX5_keep 3 = .ok (.sipush 215, 3) := by decide +kernel
theorem dX5_keep_6 : decode cX5_keep 6 = .ok (.if_icmp .ge 21, 3) := by decide +kernel
theorem dX5_keep_9 : decode cX5_keep 9 = .ok (.aload_n 0, 1) := by decide +kernel
theorem dX5_keep_10 : decode cX5_keep 10 = .ok (.getfield 16, 3) := by decide +kernel
theorem dX5_keep_13 : decode cX5_keep 13 = .ok (.iload_n 1, 1) := by decide +kernel
theorem dX5_keep_14 : decode cX5_keep 14 = .ok (.aload_n 0, 1) := by decide +kernel
theorem dX5_keep_15 : decode cX5_keep 15 = .ok (.getfield 7, 3) := by decide +kernel
theorem dX5_keep_18 : decode cX5_keep 18 = .ok (.iload_n 1, 1) := by decide +kernel
theorem dX5_keep_19 : decode cX5_keep 19 = .ok (.iaload, 1) := by decide +kernel
theorem dX5_keep_20 : decode cX5_keep 20 = .ok (.iastore, 1) := by decide +kernel
theorem dX5_keep_21 : decode cX5_keep 21 = .ok (.iinc 1 1, 3) := by decide +kernel
theorem dX5_keep_24 : decode cX5_keep 24 = .ok (.goto (-22), 3) := by decide +kernel
theorem dX5_keep_27 : decode cX5_keep 27 = .ok (.aload_n 0, 1) := by decide +kernel
theorem dX5_keep_28 : decode cX5_keep 28 = .ok (.iconst 1, 1) := by decide +kernel
theorem dX5_keep_29 : decode cX5_keep 29 = .ok (.putfield 133, 3) := by decide +kernel
theorem dX5_keep_32 : decode cX5_keep 32 = .ok (.aload_n 0, 1) := by decide +kernel
theorem dX5_keep_33 : decode cX5_keep 33 = .ok (.getfield 7, 3) := by decide +kernel
theorem dX5_keep_36 : decode cX5_keep 36 = .ok (.bipush 15, 2) := by decide +kernel
theorem dX5_keep_38 : decode cX5_keep 38 = .ok (.iaload, 1) := by decide +kernel
theorem dX5_keep_39 : decode cX5_keep 39 = .ok (.ireturn, 1) := by decide +kernel
theorem dX5_restore_0 : decode cX5_restore 0 = .ok (.aload_n 0, 1) := by decide +kernel
theorem dX5_restore_1 : decode cX5_restore 1 = .ok (.getfield 133, 3) := by decide +kernel
theorem dX5_restore_4 : decode cX5_restore 4 = .ok (.ifCond .ne 6, 3) := by decide +kernel
theorem dX5_restore_7 : decode cX5_restore 7 = .ok (.bipush (-5), 2) := by decide +kernel
theorem dX5_restore_9 : decode cX5_restore 9 = .ok (.ireturn, 1) := by decide +kernel
theorem dX5_restore_10 : decode cX5_restore 10 = .ok (.aload_n 0, 1) := by decide +kernel
theorem dX5_restore_11 : decode cX5_restore 11 = .ok (.invokevirtual 29, 3) := by decide +kernel
theorem dX5_restore_14 : decode cX5_restore 14 = .ok (.iconst 0, 1) := by decide +kernel
theorem dX5_restore_15 : decode cX5_restore 15 = .ok (.istore_n 1, 1) := by decide +kernel
theorem dX5_restore_16 : decode cX5_restore 16 = .ok (.iload_n 1, 1) := by decide +kernel
theorem dX5_restore_17 : decode cX5_restore 17 = .ok (.sipush 215, 3) := by decide +kernel
theorem dX5_restore_20 : decode cX5_restore 20 = .ok (.if_icmp .ge 21, 3) := by decide +kernel
theorem dX5_restore_23 : decode cX5_restore 23 = .ok (.aload_n 0, 1) := by decide +kernel
theorem dX5_restore_24 : decode cX5_restore 24 = .ok (.getfield 7, 3) := by decide +kernel
theorem dX5_restore_27 : decode cX5_restore 27 = .ok (.iload_n 1, 1) := by decide +kernel
theorem dX5_restore_28 : decode cX5_restore 28 = .ok (.aload_n 0, 1) := by decide +kernel
theorem dX5_restore_29 : decode cX5_restore 29 = .ok (.getfield 16, 3) := by decide +kernel
theorem dX5_restore_32 : decode cX5_restore 32 = .ok (.iload_n 1, 1) := by decide +kernel
theorem dX5_restore_33 : decode cX5_restore 33 = .ok (.iaload, 1) := by decide +kernel
theorem dX5_restore_34 : decode cX5_restore 34 = .ok (.iastore, 1) := by decide +kernel
theorem dX5_restore_35 : decode cX5_restore 35 = .ok (.iinc 1 1, 3) := by decide +kernel
theorem dX5_restore_38 : decode cX5_restore 38 = .ok (.goto (-22), 3) := by decide +kernel
theorem dX5_restore_41 : decode cX5_restore 41 = .ok (.aload_n 0, 1) := by decide +kernel
theorem dX5_restore_42 : decode cX5_restore 42 = .ok (.getfield 7, 3) := by decide +kernel
theorem dX5_restore_45 : decode cX5_restore 45 = .ok (.bipush 15, 2) := by decide +kernel
theorem dX5_restore_47 : decode cX5_restore 47 = .ok (.iaload, 1) := by decide +kernel
theorem dX5_restore_48 : decode cX5_restore 48 = .ok (.ireturn, 1) := by decide +kernel
theorem dX5_block_0 : decode cX5_block 0 = .ok (.iload_n 1, 1) := by decide +kernel
theorem dX5_block_1 : decode cX5_block 1 = .ok (.ifCond .ge 6, 3) := by decide +kernel
theorem dX5_block_4 : decode cX5_block 4 = .ok (.bipush (-2), 2) := by decide +kernel
theorem dX5_block_6 : decode cX5_block 6 = .ok (.ireturn, 1) := by decide +kernel
theorem dX5_block_7 : decode cX5_block 7 = .ok (.iconst 0, 1) := by decide +kernel
theorem dX5_block_8 : decode cX5_block 8 = .ok (.istore_n 2, 1) := by decide +kernel
theorem dX5_block_9 : decode cX5_block 9 = .ok (.iload_n 2, 1) := by decide +kernel
theorem dX5_block_10 : decode cX5_block 10 = .ok (.aload_n 0, 1) := by decide +kernel
theorem dX5_block_11 : decode cX5_block 11 = .ok (.getfield 7, 3) := by decide +kernel
theorem dX5_block_14 : decode cX5_block 14 = .ok (.bipush 15, 2) := by decide +kernel
theorem dX5_block_16 : decode cX5_block 16 = .ok (.iaload, 1) := by decide +kernel
theorem dX5_block_17 : decode cX5_block 17 = .ok (.if_icmp .ge 100, 3) := by decide +kernel
theorem dX5_block_20 : decode cX5_block 20 = .ok (.iconst 0, 1) := by decide +kernel
theorem dX5_block_21 : decode cX5_block 21 = .ok (.istore_n 3, 1) := by decide +kernel
theorem dX5_block_22 : decode cX5_block 22 = .ok (.iconst 0, 1) := by decide +kernel
theorem dX5_block_23 : decode cX5_block 23 = .ok (.istore 4, 2) := by decide +kernel
theorem dX5_block_25 : decode cX5_block 25 = .ok (.iload 4, 2) := by decide +kernel
theorem dX5_block_27 : decode cX5_block 27 = .ok (.aload_n 0, 1) := by decide +kernel
theorem dX5_block_28 : decode cX5_block 28 = .ok (.getfield 7, 3) := by decide +kernel
theorem dX5_block_31 : decode cX5_block 31 = .ok (.bipush 15, 2) := by decide +kernel
theorem dX5_block_33 : decode cX5_block 33 = .ok (.iaload, 1) := by decide +kernel
theorem dX5_block_34 : decode cX5_block 34 = .ok (.if_icmp .ge 61, 3) := by decide +kernel
theorem dX5_block_37 : decode cX5_block 37 = .ok (.aload_n 0, 1) := by decide +kernel
theorem dX5_block_38 : decode cX5_block 38 = .ok (.getfield 7, 3) := by decide +kernel
theorem dX5_block_41 : decode cX5_block 41 = .ok (.iconst 0, 1) := by decide +kernel
theorem dX5_block_42 : decode cX5_block 42 = .ok (.iload 4, 2) := by decide +kernel
theorem dX5_block_44 : decode cX5_block 44 = .ok (.invokestatic 32, 3) := by decide +kernel
theorem dX5_block_47 : decode cX5_block 47 = .ok (.iconst 2, 1) := by decide +kernel
theorem dX5_block_48 : decode cX5_block 48 = .ok (.iadd, 1) := by decide +kernel
theorem dX5_block_49 : decode cX5_block 49 = .ok (.iaload, 1) := by decide +kernel
theorem dX5_block_50 : decode cX5_block 50 = .ok (.aload_n 0, 1) := by decide +kernel
theorem dX5_block_51 : decode cX5_block 51 = .ok (.getfield 7, 3) := by decide +kernel
theorem dX5_block_54 : decode cX5_block 54 = .ok (.iconst 0, 1) := by decide +kernel
theorem dX5_block_55 : decode cX5_block 55 = .ok (.iload_n 2, 1) := by decide +kernel
theorem dX5_block_56 : decode cX5_block 56 = .ok (.invokestatic 32, 3) := by decide +kernel
theorem dX5_block_59 : decode cX5_block 59 = .ok (.iconst 2, 1) := by decide +kernel
theorem dX5_block_60 : decode cX5_block 60 = .ok (.iadd, 1) := by decide +kernel
theorem dX5_block_61 : decode cX5_block 61 = .ok (.iaload, 1) := by decide +kernel
theorem dX5_block_62 : decode cX5_block 62 = .ok (.isub, 1) := by decide +kernel
theorem dX5_block_63 : decode cX5_block 63 = .ok (.istore 5, 2) := by decide +kernel
theorem dX5_block_65 : decode cX5_block 65 = .ok (.iload_n 3, 1) := by decide +kernel
theorem dX5_block_66 : decode cX5_block 66 = .ok (.iload 5, 2) := by decide +kernel
theorem dX5_block_68 : decode cX5_block 68 = .ok (.ifCond .gt 14, 3) := by decide +kernel
theorem dX5_block_71 : decode cX5_block 71 = .ok (.iload 5, 2) := by decide +kernel
theorem dX5_block_73 : decode cX5_block 73 = .ok (.ifCond .ne 13, 3) := by decide +kernel
theorem dX5_block_76 : decode cX5_block 76 = .ok (.iload 4, 2) := by decide +kernel
theorem dX5_block_78 : decode cX5_block 78 = .ok (.iload_n 2, 1) := by decide +kernel
theorem dX5_block_79 : decode cX5_block 79 = .ok (.if_icmp .ge 7, 3) := by decide +kernel
theorem dX5_block_82 : decode cX5_block 82 = .ok (.iconst 1, 1) := by decide +kernel
theorem dX5_block_83 : decode cX5_block 83 = .ok (.goto 4, 3) := by decide +kernel
theorem dX5_block_86 : decode cX5_block 86 = .ok (.iconst 0, 1) := by decide +kernel
theorem dX5_block_87 : decode cX5_block 87 = .ok (.iadd, 1) := by decide +kernel
theorem dX5_block_88 : decode cX5_block 88 = .ok (.istore_n 3, 1) := by decide +kernel
theorem dX5_block_89 : decode cX5_block 89 = .ok (.iinc 4 1, 3) := by decide +kernel
theorem dX5_block_92 : decode cX5_block 92 = .ok (.goto (-67), 3) := by decide +kernel
theorem dX5_block_95 : decode cX5_block 95 = .ok (.iload_n 3, 1) := by decide +kernel
theorem dX5_block_96 : decode cX5_block 96 = .ok (.iload_n 1, 1) := by decide +kernel
theorem dX5_block_97 : decode cX5_block 97 = .ok (.if_icmp .ne 14, 3) := by decide +kernel
theorem dX5_block_100 : decode cX5_block 100 = .ok (.aload_n 0, 1) := by decide +kernel
theorem dX5_block_101 : decode cX5_block 101 = .ok (.getfield 7, 3) := by decide +kernel
theorem dX5_block_104 : decode cX5_block 104 = .ok (.iconst 0, 1) := by decide +kernel
theorem dX5_block_105 : decode cX5_block 105 = .ok (.iload_n 2, 1) := by decide +kernel
theorem dX5_block_106 : decode cX5_block 106 = .ok (.invokestatic 32, 3) := by decide +kernel
theorem dX5_block_109 : decode cX5_block 109 = .ok (.iaload, 1) := by decide +kernel
theorem dX5_block_110 : decode cX5_block 110 = .ok (.ireturn, 1) := by decide +kernel
theorem dX5_block_111 : decode cX5_block 111 = .ok (.iinc 2 1, 3) := by decide +kernel
theorem dX5_block_114 : decode cX5_block 114 = .ok (.goto (-105), 3) := by decide +kernel
theorem dX5_block_117 : decode cX5_block 117 = .ok (.bipush (-5), 2) := by decide +kernel
theorem dX5_block_119 : decode cX5_block 119 = .ok (.ireturn, 1) := by decide +kernel
theorem dX5_whyStays_0 : decode cX5_whyStays 0 = .ok (.aload_n 0, 1) := by decide +kernel
theorem dX5_whyStays_1 : decode cX5_whyStays 1 = .ok (.invokevirtual 84, 3) := by decide +kernel
theorem dX5_whyStays_4 : decode cX5_whyStays 4 = .ok (.aload_n 0, 1) := by decide +kernel
theorem dX5_whyStays_5 : decode cX5_whyStays 5 = .ok (.sipush 215, 3) := by decide +kernel
theorem dX5_whyStays_8 : decode cX5_whyStays 8 = .ok (.invokevirtual 61, 3) := by decide +kernel
theorem dX5_whyStays_11 : decode cX5_whyStays 11 = .ok (.istore_n 2, 1) := by decide +kernel
theorem dX5_whyStays_12 : decode cX5_whyStays 12 = .ok (.aload_n 0, 1) := by decide +kernel
theorem dX5_whyStays_13 : decode cX5_whyStays 13 = .ok (.getfield 22, 3) := by decide +kernel
theorem dX5_whyStays_16 : decode cX5_whyStays 16 = .ok (.iload_n 1, 1) := by decide +kernel
theorem dX5_whyStays_17 : decode cX5_whyStays 17 = .ok (.iaload, 1) := by decide +kernel
theorem dX5_whyStays_18 : decode cX5_whyStays 18 = .ok (.ireturn, 1) := by decide +kernel
theorem dX5_ofBlock_0 : decode cX5_ofBlock 0 = .ok (.aload_n 0, 1) := by decide +kernel
theorem dX5_ofBlock_1 : decode cX5_ofBlock 1 = .ok (.iconst 0, 1) := by decide +kernel
theorem dX5_ofBlock_2 : decode cX5_ofBlock 2 = .ok (.iload_n 1, 1) := by decide +kernel
theorem dX5_ofBlock_3 : decode cX5_ofBlock 3 = .ok (.invokevirtual 65, 3) := by decide +kernel
theorem dX5_ofBlock_6 : decode cX5_ofBlock 6 = .ok (.istore_n 3, 1) := by decide +kernel
theorem dX5_ofBlock_7 : decode cX5_ofBlock 7 = .ok (.iload_n 3, 1) := by decide +kernel
theorem dX5_ofBlock_8 : decode cX5_ofBlock 8 = .ok (.bipush (-5), 2) := by decide +kernel
theorem dX5_ofBlock_10 : decode cX5_ofBlock 10 = .ok (.if_icmp .ne 5, 3) := by decide +kernel
theorem dX5_ofBlock_13 : decode cX5_ofBlock 13 = .ok (.iconst (-1), 1) := by decide +kernel
theorem dX5_ofBlock_14 : decode cX5_ofBlock 14 = .ok (.ireturn, 1) := by decide +kernel
theorem dX5_ofBlock_15 : decode cX5_ofBlock 15 = .ok (.iload_n 2, 1) := by decide +kernel
theorem dX5_ofBlock_16 : decode cX5_ofBlock 16 = .ok (.tableswitch 93 0 8 #[52, 52, 52, 67, 74, 74, 74, 74, 87], 52) := by decide +kernel
theorem dX5_ofBlock_68 : decode cX5_ofBlock 68 = .ok (.aload_n 0, 1) := by decide +kernel
theorem dX5_ofBlock_69 : decode cX5_ofBlock 69 = .ok (.getfield 7, 3) := by decide +kernel
theorem dX5_ofBlock_72 : decode cX5_ofBlock 72 = .ok (.iconst 0, 1) := by decide +kernel
theorem dX5_ofBlock_73 : decode cX5_ofBlock 73 = .ok (.iload_n 3, 1) := by decide +kernel
theorem dX5_ofBlock_74 : decode cX5_ofBlock 74 = .ok (.invokestatic 32, 3) := by decide +kernel
theorem dX5_ofBlock_77 : decode cX5_ofBlock 77 = .ok (.iconst 1, 1) := by decide +kernel
theorem dX5_ofBlock_78 : decode cX5_ofBlock 78 = .ok (.iadd, 1) := by decide +kernel
theorem dX5_ofBlock_79 : decode cX5_ofBlock 79 = .ok (.iload_n 2, 1) := by decide +kernel
theorem dX5_ofBlock_80 : decode cX5_ofBlock 80 = .ok (.iadd, 1) := by decide +kernel
theorem dX5_ofBlock_81 : decode cX5_ofBlock 81 = .ok (.iaload, 1) := by decide +kernel
theorem dX5_ofBlock_82 : decode cX5_ofBlock 82 = .ok (.ireturn, 1) := by decide +kernel
theorem dX5_ofBlock_83 : decode cX5_ofBlock 83 = .ok (.aload_n 0, 1) := by decide +kernel
theorem dX5_ofBlock_84 : decode cX5_ofBlock 84 = .ok (.iconst 0, 1) := by decide +kernel
theorem dX5_ofBlock_85 : decode cX5_ofBlock 85 = .ok (.iload_n 3, 1) := by decide +kernel
theorem dX5_ofBlock_86 : decode cX5_ofBlock 86 = .ok (.invokevirtual 40, 3) := by decide +kernel
theorem dX5_ofBlock_89 : decode cX5_ofBlock 89 = .ok (.ireturn, 1) := by decide +kernel
theorem dX5_ofBlock_90 : decode cX5_ofBlock 90 = .ok (.aload_n 0, 1) := by decide +kernel
theorem dX5_ofBlock_91 : decode cX5_ofBlock 91 = .ok (.getfield 7, 3) := by decide +kernel
theorem dX5_ofBlock_94 : decode cX5_ofBlock 94 = .ok (.iconst 0, 1) := by decide +kernel
theorem dX5_ofBlock_95 : decode cX5_ofBlock 95 = .ok (.iload_n 3, 1) := by decide +kernel
theorem dX5_ofBlock_96 : decode cX5_ofBlock 96 = .ok (.invokestatic 32, 3) := by decide +kernel
theorem dX5_ofBlock_99 : decode cX5_ofBlock 99 = .ok (.iload_n 2, 1) := by decide +kernel
theorem dX5_ofBlock_100 : decode cX5_ofBlock 100 = .ok (.iadd, 1) := by decide +kernel
theorem dX5_ofBlock_101 : decode cX5_ofBlock 101 = .ok (.iaload, 1) := by decide +kernel
theorem dX5_ofBlock_102 : decode cX5_ofBlock 102 = .ok (.ireturn, 1) := by decide +kernel
theorem dX5_ofBlock_103 : decode cX5_ofBlock 103 = .ok (.aload_n 0, 1) := by decide +kernel
theorem dX5_ofBlock_104 : decode cX5_ofBlock 104 = .ok (.iload_n 3, 1) := by decide +kernel
theorem dX5_ofBlock_105 : decode cX5_ofBlock 105 = .ok (.invokevirtual 137, 3) := by decide +kernel
theorem dX5_ofBlock_108 : decode cX5_ofBlock 108 = .ok (.ireturn, 1) := by decide +kernel
theorem dX5_ofBlock_109 : decode cX5_ofBlock 109 = .ok (.bipush (-2), 2) := by decide +kernel
theorem dX5_ofBlock_111 : decode cX5_ofBlock 111 = .ok (.ireturn, 1) := by decide +kernel
theorem dX5_shelf_0 : decode cX5_shelf 0 = .ok (.iload_n 1, 1) := by decide +kernel
theorem dX5_shelf_1 : decode cX5_shelf 1 = .ok (.iconst 0, 1) := by decide +kernel
theorem dX5_shelf_2 : decode cX5_shelf 2 = .ok (.iconst 2, 1) := by decide +kernel
theorem dX5_shelf_3 : decode cX5_shelf 3 = .ok (.invokestatic 81, 3) := by decide +kernel
theorem dX5_shelf_6 : decode cX5_shelf 6 = .ok (.ifCond .ne 5, 3) := by decide +kernel
theorem dX5_shelf_9 : decode cX5_shelf 9 = .ok (.iconst (-1), 1) := by decide +kernel
theorem dX5_shelf_10 : decode cX5_shelf 10 = .ok (.ireturn, 1) := by decide +kernel
theorem dX5_shelf_11 : decode cX5_shelf 11 = .ok (.iload_n 2, 1) := by decide +kernel
theorem dX5_shelf_12 : decode cX5_shelf 12 = .ok (.tableswitch 77 0 4 #[36, 46, 54, 62, 70], 36) := by decide +kernel
theorem dX5_shelf_48 : decode cX5_shelf 48 = .ok (.aload_n 0, 1) := by decide +kernel
theorem dX5_shelf_49 : decode cX5_shelf 49 = .ok (.getfield 7, 3) := by decide +kernel
theorem dX5_shelf_52 : decode cX5_shelf 52 = .ok (.bipush 6, 2) := by decide +kernel
theorem dX5_shelf_54 : decode cX5_shelf 54 = .ok (.iload_n 1, 1) := by decide +kernel
theorem dX5_shelf_55 : decode cX5_shelf 55 = .ok (.iadd, 1) := by decide +kernel
theorem dX5_shelf_56 : decode cX5_shelf 56 = .ok (.iaload, 1) := by decide +kernel
theorem dX5_shelf_57 : decode cX5_shelf 57 = .ok (.ireturn, 1) := by decide +kernel
theorem dX5_shelf_58 : decode cX5_shelf 58 = .ok (.aload_n 0, 1) := by decide +kernel
theorem dX5_shelf_59 : decode cX5_shelf 59 = .ok (.iconst 0, 1) := by decide +kernel
theorem dX5_shelf_60 : decode cX5_shelf 60 = .ok (.iload_n 1, 1) := by decide +kernel
theorem dX5_shelf_61 : decode cX5_shelf 61 = .ok (.iconst 1, 1) := by decide +kernel
theorem dX5_shelf_62 : decode cX5_shelf 62 = .ok (.invokevirtual 36, 3) := by decide +kernel
theorem dX5_shelf_65 : decode cX5_shelf 65 = .ok (.ireturn, 1) := by decide +kernel
theorem dX5_shelf_66 : decode cX5_shelf 66 = .ok (.aload_n 0, 1) := by decide +kernel
theorem dX5_shelf_67 : decode cX5_shelf 67 = .ok (.iconst 0, 1) := by decide +kernel
theorem dX5_shelf_68 : decode cX5_shelf 68 = .ok (.iload_n 1, 1) := by decide +kernel
theorem dX5_shelf_69 : decode cX5_shelf 69 = .ok (.iconst 0, 1) := by decide +kernel
theorem dX5_shelf_70 : decode cX5_shelf 70 = .ok (.invokevirtual 36, 3) := by decide +kernel
theorem dX5_shelf_73 : decode cX5_shelf 73 = .ok (.ireturn, 1) := by decide +kernel
theorem dX5_shelf_74 : decode cX5_shelf 74 = .ok (.aload_n 0, 1) := by decide +kernel
theorem dX5_shelf_75 : decode cX5_shelf 75 = .ok (.iconst 0, 1) := by decide +kernel
theorem dX5_shelf_76 : decode cX5_shelf 76 = .ok (.iload_n 1, 1) := by decide +kernel
theorem dX5_shelf_77 : decode cX5_shelf 77 = .ok (.iconst 2, 1) := by decide +kernel
theorem dX5_shelf_78 : decode cX5_shelf 78 = .ok (.invokevirtual 36, 3) := by decide +kernel
theorem dX5_shelf_81 : decode cX5_shelf 81 = .ok (.ireturn, 1) := by decide +kernel
theorem dX5_shelf_82 : decode cX5_shelf 82 = .ok (.aload_n 0, 1) := by decide +kernel
theorem dX5_shelf_83 : decode cX5_shelf 83 = .ok (.iconst 0, 1) := by decide +kernel
theorem dX5_shelf_84 : decode cX5_shelf 84 = .ok (.iload_n 1, 1) := by decide +kernel
theorem dX5_shelf_85 : decode cX5_shelf 85 = .ok (.invokevirtual 54, 3) := by decide +kernel
theorem dX5_shelf_88 : decode cX5_shelf 88 = .ok (.ireturn, 1) := by decide +kernel
theorem dX5_shelf_89 : decode cX5_shelf 89 = .ok (.bipush (-2), 2) := by decide +kernel
theorem dX5_shelf_91 : decode cX5_shelf 91 = .ok (.ireturn, 1) := by decide +kernel
theorem dX5_heat_0 : decode cX5_heat 0 = .ok (.aload_n 0, 1) := by decide +kernel
theorem dX5_heat_1 : decode cX5_heat 1 = .ok (.iload_n 1, 1) := by decide +kernel
theorem dX5_heat_2 : decode cX5_heat 2 = .ok (.iconst 0, 1) := by decide +kernel
theorem dX5_heat_3 : decode cX5_heat 3 = .ok (.iconst 2, 1) := by decide +kernel
theorem dX5_heat_4 : decode cX5_heat 4 = .ok (.invokevirtual 36, 3) := by decide +kernel
theorem dX5_heat_7 : decode cX5_heat 7 = .ok (.aload_n 0, 1) := by decide +kernel
theorem dX5_heat_8 : decode cX5_heat 8 = .ok (.iload_n 1, 1) := by decide +kernel
theorem dX5_heat_9 : decode cX5_heat 9 = .ok (.iconst 1, 1) := by decide +kernel
theorem dX5_heat_10 : decode cX5_heat 10 = .ok (.iconst 2, 1) := by decide +kernel
theorem dX5_heat_11 : decode cX5_heat 11 = .ok (.invokevirtual 36, 3) := by decide +kernel
theorem dX5_heat_14 : decode cX5_heat 14 = .ok (.iadd, 1) := by decide +kernel
theorem dX5_heat_15 : decode cX5_heat 15 = .ok (.aload_n 0, 1) := by decide +kernel
theorem dX5_heat_16 : decode cX5_heat 16 = .ok (.iload_n 1, 1) := by decide +kernel
theorem dX5_heat_17 : decode cX5_heat 17 = .ok (.iconst 2, 1) := by decide +kernel
theorem dX5_heat_18 : decode cX5_heat 18 = .ok (.iconst 2, 1) := by decide +kernel
theorem dX5_heat_19 : decode cX5_heat 19 = .ok (.invokevirtual 36, 3) := by decide +kernel
theorem dX5_heat_22 : decode cX5_heat 22 = .ok (.iadd, 1) := by decide +kernel
theorem dX5_heat_23 : decode cX5_heat 23 = .ok (.ireturn, 1) := by decide +kernel
theorem dX5_total_0 : decode cX5_total 0 = .ok (.iload_n 1, 1) := by decide +kernel
theorem dX5_total_1 : decode cX5_total 1 = .ok (.tableswitch 53 23 26 #[31, 37, 43, 48], 31) := by decide +kernel
theorem dX5_total_32 : decode cX5_total 32 = .ok (.aload_n 0, 1) := by decide +kernel
theorem dX5_total_33 : decode cX5_total 33 = .ok (.iconst 0, 1) := by decide +kernel
theorem dX5_total_34 : decode cX5_total 34 = .ok (.invokevirtual 72, 3) := by decide +kernel
theorem dX5_total_37 : decode cX5_total 37 = .ok (.ireturn, 1) := by decide +kernel
theorem dX5_total_38 : decode cX5_total 38 = .ok (.aload_n 0, 1) := by decide +kernel
theorem dX5_total_39 : decode cX5_total 39 = .ok (.iconst 0, 1) := by decide +kernel
theorem dX5_total_40 : decode cX5_total 40 = .ok (.invokevirtual 140, 3) := by decide +kernel
theorem dX5_total_43 : decode cX5_total 43 = .ok (.ireturn, 1) := by decide +kernel
theorem dX5_total_44 : decode cX5_total 44 = .ok (.aload_n 0, 1) := by decide +kernel
theorem dX5_total_45 : decode cX5_total 45 = .ok (.getfield 25, 3) := by decide +kernel
theorem dX5_total_48 : decode cX5_total 48 = .ok (.ireturn, 1) := by decide +kernel
theorem dX5_total_49 : decode cX5_total 49 = .ok (.aload_n 0, 1) := by decide +kernel
theorem dX5_total_50 : decode cX5_total 50 = .ok (.getfield 108, 3) := by decide +kernel
theorem dX5_total_53 : decode cX5_total 53 = .ok (.ireturn, 1) := by decide +kernel
theorem dX5_total_54 : decode cX5_total 54 = .ok (.iload_n 1, 1) := by decide +kernel
theorem dX5_total_55 : decode cX5_total 55 = .ok (.iconst 0, 1) := by decide +kernel
theorem dX5_total_56 : decode cX5_total 56 = .ok (.bipush 22, 2) := by decide +kernel
theorem dX5_total_58 : decode cX5_total 58 = .ok (.invokestatic 81, 3) := by decide +kernel
theorem dX5_total_61 : decode cX5_total 61 = .ok (.ifCond .eq 12, 3) := by decide +kernel
theorem dX5_total_64 : decode cX5_total 64 = .ok (.aload_n 0, 1) := by decide +kernel
theorem dX5_total_65 : decode cX5_total 65 = .ok (.getfield 7, 3) := by decide +kernel
theorem dX5_total_68 : decode cX5_total 68 = .ok (.iload_n 1, 1) := by decide +kernel
theorem dX5_total_69 : decode cX5_total 69 = .ok (.iaload, 1) := by decide +kernel
theorem dX5_total_70 : decode cX5_total 70 = .ok (.goto 5, 3) := by decide +kernel
theorem dX5_total_73 : decode cX5_total 73 = .ok (.bipush (-2), 2) := by decide +kernel
theorem dX5_total_75 : decode cX5_total 75 = .ok (.ireturn, 1) := by decide +kernel
theorem dX5_ifPassed_0 : decode cX5_ifPassed 0 = .ok (.iload_n 1, 1) := by decide +kernel
theorem dX5_ifPassed_1 : decode cX5_ifPassed 1 = .ok (.iconst 1, 1) := by decide +kernel
theorem dX5_ifPassed_2 : decode cX5_ifPassed 2 = .ok (.bipush 99, 2) := by decide +kernel
theorem dX5_ifPassed_4 : decode cX5_ifPassed 4 = .ok (.invokestatic 81, 3) := by decide +kernel
theorem dX5_ifPassed_7 : decode cX5_ifPassed 7 = .ok (.ifCond .eq 12, 3) := by decide +kernel
theorem dX5_ifPassed_10 : decode cX5_ifPassed 10 = .ok (.iload_n 2, 1) := by decide +kernel
theorem dX5_ifPassed_11 : decode cX5_ifPassed 11 = .ok (.iconst 0, 1) := by decide +kernel
theorem dX5_ifPassed_12 : decode cX5_ifPassed 12 = .ok (.iconst 5, 1) := by decide +kernel
theorem dX5_ifPassed_13 : decode cX5_ifPassed 13 = .ok (.invokestatic 81, 3) := by decide +kernel
theorem dX5_ifPassed_16 : decode cX5_ifPassed 16 = .ok (.ifCond .ne 6, 3) := by decide +kernel
theorem dX5_ifPassed_19 : decode cX5_ifPassed 19 = .ok (.bipush (-2), 2) := by decide +kernel
theorem dX5_ifPassed_21 : decode cX5_ifPassed 21 = .ok (.ireturn, 1) := by decide +kernel
theorem dX5_ifPassed_22 : decode cX5_ifPassed 22 = .ok (.aload_n 0, 1) := by decide +kernel
theorem dX5_ifPassed_23 : decode cX5_ifPassed 23 = .ok (.invokevirtual 84, 3) := by decide +kernel
theorem dX5_ifPassed_26 : decode cX5_ifPassed 26 = .ok (.aload_n 0, 1) := by decide +kernel
theorem dX5_ifPassed_27 : decode cX5_ifPassed 27 = .ok (.sipush 215, 3) := by decide +kernel
theorem dX5_ifPassed_30 : decode cX5_ifPassed 30 = .ok (.iload_n 1, 1) := by decide +kernel
theorem dX5_ifPassed_31 : decode cX5_ifPassed 31 = .ok (.invokevirtual 75, 3) := by decide +kernel
theorem dX5_ifPassed_34 : decode cX5_ifPassed 34 = .ok (.istore_n 3, 1) := by decide +kernel
theorem dX5_ifPassed_35 : decode cX5_ifPassed 35 = .ok (.iload_n 2, 1) := by decide +kernel
theorem dX5_ifPassed_36 : decode cX5_ifPassed 36 = .ok (.tableswitch 55 0 2 #[28, 45, 47], 28) := by decide +kernel
theorem dX5_ifPassed_64 : decode cX5_ifPassed 64 = .ok (.aload_n 0, 1) := by decide +kernel
theorem dX5_ifPassed_65 : decode cX5_ifPassed 65 = .ok (.getfield 7, 3) := by decide +kernel
theorem dX5_ifPassed_68 : decode cX5_ifPassed 68 = .ok (.sipush 233, 3) := by decide +kernel
theorem dX5_ifPassed_71 : decode cX5_ifPassed 71 = .ok (.iaload, 1) := by decide +kernel
theorem dX5_ifPassed_72 : decode cX5_ifPassed 72 = .ok (.aload_n 0, 1) := by decide +kernel
theorem dX5_ifPassed_73 : decode cX5_ifPassed 73 = .ok (.getfield 7, 3) := by decide +kernel
theorem dX5_ifPassed_76 : decode cX5_ifPassed 76 = .ok (.bipush 18, 2) := by decide +kernel
theorem dX5_ifPassed_78 : decode cX5_ifPassed 78 = .ok (.iaload, 1) := by decide +kernel
theorem dX5_ifPassed_79 : decode cX5_ifPassed 79 = .ok (.isub, 1) := by decide +kernel
theorem dX5_ifPassed_80 : decode cX5_ifPassed 80 = .ok (.ireturn, 1) := by decide +kernel
theorem dX5_ifPassed_81 : decode cX5_ifPassed 81 = .ok (.iload_n 3, 1) := by decide +kernel
theorem dX5_ifPassed_82 : decode cX5_ifPassed 82 = .ok (.ireturn, 1) := by decide +kernel
theorem dX5_ifPassed_83 : decode cX5_ifPassed 83 = .ok (.aload_n 0, 1) := by decide +kernel
theorem dX5_ifPassed_84 : decode cX5_ifPassed 84 = .ok (.sipush 215, 3) := by decide +kernel
theorem dX5_ifPassed_87 : decode cX5_ifPassed 87 = .ok (.invokevirtual 140, 3) := by decide +kernel
theorem dX5_ifPassed_90 : decode cX5_ifPassed 90 = .ok (.ireturn, 1) := by decide +kernel
theorem dX5_ifPassed_91 : decode cX5_ifPassed 91 = .ok (.aload_n 0, 1) := by decide +kernel
theorem dX5_ifPassed_92 : decode cX5_ifPassed 92 = .ok (.sipush 215, 3) := by decide +kernel
theorem dX5_ifPassed_95 : decode cX5_ifPassed 95 = .ok (.iload_n 2, 1) := by decide +kernel
theorem dX5_ifPassed_96 : decode cX5_ifPassed 96 = .ok (.iconst 3, 1) := by decide +kernel
theorem dX5_ifPassed_97 : decode cX5_ifPassed 97 = .ok (.isub, 1) := by decide +kernel
theorem dX5_ifPassed_98 : decode cX5_ifPassed 98 = .ok (.iconst 1, 1) := by decide +kernel
theorem dX5_ifPassed_99 : decode cX5_ifPassed 99 = .ok (.invokevirtual 36, 3) := by decide +kernel
theorem dX5_ifPassed_102 : decode cX5_ifPassed 102 = .ok (.ireturn, 1) := by decide +kernel
theorem dX5_nextMove_0 : decode cX5_nextMove 0 = .ok (.aload_n 0, 1) := by decide +kernel
theorem dX5_nextMove_1 : decode cX5_nextMove 1 = .ok (.invokevirtual 84, 3) := by decide +kernel
theorem dX5_nextMove_4 : decode cX5_nextMove 4 = .ok (.iconst 1, 1) := by decide +kernel
theorem dX5_nextMove_5 : decode cX5_nextMove 5 = .ok (.istore_n 1, 1) := by decide +kernel
theorem dX5_nextMove_6 : decode cX5_nextMove 6 = .ok (.iload_n 1, 1) := by decide +kernel
theorem dX5_nextMove_7 : decode cX5_nextMove 7 = .ok (.bipush 99, 2) := by decide +kernel
theorem dX5_nextMove_9 : decode cX5_nextMove 9 = .ok (.if_icmp .gt 21, 3) := by decide +kernel
theorem dX5_nextMove_12 : decode cX5_nextMove 12 = .ok (.aload_n 0, 1) := by decide +kernel
theorem dX5_nextMove_13 : decode cX5_nextMove 13 = .ok (.sipush 215, 3) := by decide +kernel
theorem dX5_nextMove_16 : decode cX5_nextMove 16 = .ok (.invokevirtual 61, 3) := by decide +kernel
theorem dX5_nextMove_19 : decode cX5_nextMove 19 = .ok (.ifCond .le 5, 3) := by decide +kernel
theorem dX5_nextMove_22 : decode cX5_nextMove 22 = .ok (.iload_n 1, 1) := by decide +kernel
theorem dX5_nextMove_23 : decode cX5_nextMove 23 = .ok (.ireturn, 1) := by decide +kernel
theorem dX5_nextMove_24 : decode cX5_nextMove 24 = .ok (.iinc 1 1, 3) := by decide +kernel
theorem dX5_nextMove_27 : decode cX5_nextMove 27 = .ok (.goto (-21), 3) := by decide +kernel
theorem dX5_nextMove_30 : decode cX5_nextMove 30 = .ok (.bipush (-5), 2) := by decide +kernel
theorem dX5_nextMove_32 : decode cX5_nextMove 32 = .ok (.ireturn, 1) := by decide +kernel
theorem dX5_bestHot_0 : decode cX5_bestHot 0 = .ok (.iload_n 1, 1) := by decide +kernel
theorem dX5_bestHot_1 : decode cX5_bestHot 1 = .ok (.iconst 1, 1) := by decide +kernel
theorem dX5_bestHot_2 : decode cX5_bestHot 2 = .ok (.bipush 20, 2) := by decide +kernel
theorem dX5_bestHot_4 : decode cX5_bestHot 4 = .ok (.invokestatic 81, 3) := by decide +kernel
theorem dX5_bestHot_7 : decode cX5_bestHot 7 = .ok (.ifCond .eq 12, 3) := by decide +kernel
theorem dX5_bestHot_10 : decode cX5_bestHot 10 = .ok (.iload_n 2, 1) := by decide +kernel
theorem dX5_bestHot_11 : decode cX5_bestHot 11 = .ok (.iconst 0, 1) := by decide +kernel
theorem dX5_bestHot_12 : decode cX5_bestHot 12 = .ok (.iconst 1, 1) := by decide +kernel
theorem dX5_bestHot_13 : decode cX5_bestHot 13 = .ok (.invokestatic 81, 3) := by decide +kernel
theorem dX5_bestHot_16 : decode cX5_bestHot 16 = .ok (.ifCond .ne 6, 3) := by decide +kernel
theorem dX5_bestHot_19 : decode cX5_bestHot 19 = .ok (.bipush (-2), 2) := by decide +kernel
theorem dX5_bestHot_21 : decode cX5_bestHot 21 = .ok (.ireturn, 1) := by decide +kernel
theorem dX5_bestHot_22 : decode cX5_bestHot 22 = .ok (.bipush (-5), 2) := by decide +kernel
theorem dX5_bestHot_24 : decode cX5_bestHot 24 = .ok (.istore_n 3, 1) := by decide +kernel
theorem dX5_bestHot_25 : decode cX5_bestHot 25 = .ok (.iconst 0, 1) := by decide +kernel
theorem dX5_bestHot_26 : decode cX5_bestHot 26 = .ok (.istore 4, 2) := by decide +kernel
theorem dX5_bestHot_28 : decode cX5_bestHot 28 = .ok (.iconst 0, 1) := by decide +kernel
theorem dX5_bestHot_29 : decode cX5_bestHot 29 = .ok (.istore 5, 2) := by decide +kernel
theorem dX5_bestHot_31 : decode cX5_bestHot 31 = .ok (.iload 5, 2) := by decide +kernel
theorem dX5_bestHot_33 : decode cX5_bestHot 33 = .ok (.sipush 20000, 3) := by decide +kernel
theorem dX5_bestHot_36 : decode cX5_bestHot 36 = .ok (.if_icmp .gt 111, 3) := by decide +kernel
theorem dX5_bestHot_39 : decode cX5_bestHot 39 = .ok (.iload 5, 2) := by decide +kernel
theorem dX5_bestHot_41 : decode cX5_bestHot 41 = .ok (.aload_n 0, 1) := by decide +kernel
theorem dX5_bestHot_42 : decode cX5_bestHot 42 = .ok (.getfield 7, 3) := by decide +kernel
theorem dX5_bestHot_45 : decode cX5_bestHot 45 = .ok (.iconst 2, 1) := by decide +kernel
theorem dX5_bestHot_46 : decode cX5_bestHot 46 = .ok (.iaload, 1) := by decide +kernel
theorem dX5_bestHot_47 : decode cX5_bestHot 47 = .ok (.if_icmp .lt 91, 3) := by decide +kernel
theorem dX5_bestHot_50 : decode cX5_bestHot 50 = .ok (.aload_n 0, 1) := by decide +kernel
theorem dX5_bestHot_51 : decode cX5_bestHot 51 = .ok (.invokevirtual 84, 3) := by decide +kernel
theorem dX5_bestHot_54 : decode cX5_bestHot 54 = .ok (.aload_n 0, 1) := by decide +kernel
theorem dX5_bestHot_55 : decode cX5_bestHot 55 = .ok (.getfield 7, 3) := by decide +kernel
theorem dX5_bestHot_58 : decode cX5_bestHot 58 = .ok (.sipush 216, 3) := by decide +kernel
theorem dX5_bestHot_61 : decode cX5_bestHot 61 = .ok (.iload 5, 2) := by decide +kernel
theorem dX5_bestHot_63 : decode cX5_bestHot 63 = .ok (.iastore, 1) := by decide +kernel
theorem dX5_bestHot_64 : decode cX5_bestHot 64 = .ok (.aload_n 0, 1) := by decide +kernel
theorem dX5_bestHot_65 : decode cX5_bestHot 65 = .ok (.sipush 215, 3) := by decide +kernel
theorem dX5_bestHot_68 : decode cX5_bestHot 68 = .ok (.iload_n 1, 1) := by decide +kernel
theorem dX5_bestHot_69 : decode cX5_bestHot 69 = .ok (.invokevirtual 75, 3) := by decide +kernel
theorem dX5_bestHot_72 : decode cX5_bestHot 72 = .ok (.istore 6, 2) := by decide +kernel
theorem dX5_bestHot_74 : decode cX5_bestHot 74 = .ok (.aload_n 0, 1) := by decide +kernel
theorem dX5_bestHot_75 : decode cX5_bestHot 75 = .ok (.getfield 7, 3) := by decide +kernel
theorem dX5_bestHot_78 : decode cX5_bestHot 78 = .ok (.sipush 233, 3) := by decide +kernel
theorem dX5_bestHot_81 : decode cX5_bestHot 81 = .ok (.iaload, 1) := by decide +kernel
theorem dX5_bestHot_82 : decode cX5_bestHot 82 = .ok (.aload_n 0, 1) := by decide +kernel
theorem dX5_bestHot_83 : decode cX5_bestHot 83 = .ok (.getfield 7, 3) := by decide +kernel
theorem dX5_bestHot_86 : decode cX5_bestHot 86 = .ok (.bipush 18, 2) := by decide +kernel
theorem dX5_bestHot_88 : decode cX5_bestHot 88 = .ok (.iaload, 1) := by decide +kernel
theorem dX5_bestHot_89 : decode cX5_bestHot 89 = .ok (.isub, 1) := by decide +kernel
theorem dX5_bestHot_90 : decode cX5_bestHot 90 = .ok (.istore 7, 2) := by decide +kernel
theorem dX5_bestHot_92 : decode cX5_bestHot 92 = .ok (.iload_n 3, 1) := by decide +kernel
theorem dX5_bestHot_93 : decode cX5_bestHot 93 = .ok (.bipush (-5), 2) := by decide +kernel
theorem dX5_bestHot_95 : decode cX5_bestHot 95 = .ok (.if_icmp .eq 10, 3) := by decide +kernel
theorem dX5_bestHot_98 : decode cX5_bestHot 98 = .ok (.iload 7, 2) := by decide +kernel
theorem dX5_bestHot_100 : decode cX5_bestHot 100 = .ok (.iload 4, 2) := by decide +kernel
theorem dX5_bestHot_102 : decode cX5_bestHot 102 = .ok (.if_icmp .ge 7, 3) := by decide +kernel
theorem dX5_bestHot_105 : decode cX5_bestHot 105 = .ok (.iconst 1, 1) := by decide +kernel
theorem dX5_bestHot_106 : decode cX5_bestHot 106 = .ok (.goto 4, 3) := by decide +kernel
theorem dX5_bestHot_109 : decode cX5_bestHot 109 = .ok (.iconst 0, 1) := by decide +kernel
theorem dX5_bestHot_110 : decode cX5_bestHot 110 = .ok (.istore 8, 2) := by decide +kernel
theorem dX5_bestHot_112 : decode cX5_bestHot 112 = .ok (.iload 8, 2) := by decide +kernel
theorem dX5_bestHot_114 : decode cX5_bestHot 114 = .ok (.ifCond .eq 8, 3) := by decide +kernel
theorem dX5_bestHot_117 : decode cX5_bestHot 117 = .ok (.iload 5, 2) := by decide +kernel
theorem dX5_bestHot_119 : decode cX5_bestHot 119 = .ok (.goto 4, 3) := by decide +kernel
theorem dX5_bestHot_122 : decode cX5_bestHot 122 = .ok (.iload_n 3, 1) := by decide +kernel
theorem dX5_bestHot_123 : decode cX5_bestHot 123 = .ok (.istore_n 3, 1) := by decide +kernel
theorem dX5_bestHot_124 : decode cX5_bestHot 124 = .ok (.iload 8, 2) := by decide +kernel
theorem dX5_bestHot_126 : decode cX5_bestHot 126 = .ok (.ifCond .eq 8, 3) := by decide +kernel
theorem dX5_bestHot_129 : decode cX5_bestHot 129 = .ok (.iload 7, 2) := by decide +kernel
theorem dX5_bestHot_131 : decode cX5_bestHot 131 = .ok (.goto 5, 3) := by decide +kernel
theorem dX5_bestHot_134 : decode cX5_bestHot 134 = .ok (.iload 4, 2) := by decide +kernel
theorem dX5_bestHot_136 : decode cX5_bestHot 136 = .ok (.istore 4, 2) := by decide +kernel
theorem dX5_bestHot_138 : decode cX5_bestHot 138 = .ok (.iinc 5 500, 6) := by decide +kernel
theorem dX5_bestHot_144 : decode cX5_bestHot 144 = .ok (.goto (-113), 3) := by decide +kernel
theorem dX5_bestHot_147 : decode cX5_bestHot 147 = .ok (.iload_n 2, 1) := by decide +kernel
theorem dX5_bestHot_148 : decode cX5_bestHot 148 = .ok (.ifCond .ne 7, 3) := by decide +kernel
theorem dX5_bestHot_151 : decode cX5_bestHot 151 = .ok (.iload_n 3, 1) := by decide +kernel
theorem dX5_bestHot_152 : decode cX5_bestHot 152 = .ok (.goto 5, 3) := by decide +kernel
theorem dX5_bestHot_155 : decode cX5_bestHot 155 = .ok (.iload 4, 2) := by decide +kernel
theorem dX5_bestHot_157 : decode cX5_bestHot 157 = .ok (.ireturn, 1) := by decide +kernel
theorem dX5_cheapest_0 : decode cX5_cheapest 0 = .ok (.aload_n 0, 1) := by decide +kernel
theorem dX5_cheapest_1 : decode cX5_cheapest 1 = .ok (.iconst 0, 1) := by decide +kernel
theorem dX5_cheapest_2 : decode cX5_cheapest 2 = .ok (.iload_n 1, 1) := by decide +kernel
theorem dX5_cheapest_3 : decode cX5_cheapest 3 = .ok (.invokevirtual 65, 3) := by decide +kernel
theorem dX5_cheapest_6 : decode cX5_cheapest 6 = .ok (.istore_n 3, 1) := by decide +kernel
theorem dX5_cheapest_7 : decode cX5_cheapest 7 = .ok (.iload_n 3, 1) := by decide +kernel
theorem dX5_cheapest_8 : decode cX5_cheapest 8 = .ok (.bipush (-5), 2) := by decide +kernel
theorem dX5_cheapest_10 : decode cX5_cheapest 10 = .ok (.if_icmp .ne 5, 3) := by decide +kernel
theorem dX5_cheapest_13 : decode cX5_cheapest 13 = .ok (.iconst (-1), 1) := by decide +kernel
theorem dX5_cheapest_14 : decode cX5_cheapest 14 = .ok (.ireturn, 1) := by decide +kernel
theorem dX5_cheapest_15 : decode cX5_cheapest 15 = .ok (.iload_n 2, 1) := by decide +kernel
theorem dX5_cheapest_16 : decode cX5_cheapest 16 = .ok (.iconst 0, 1) := by decide +kernel
theorem dX5_cheapest_17 : decode cX5_cheapest 17 = .ok (.sipush 999, 3) := by decide +kernel
theorem dX5_cheapest_20 : decode cX5_cheapest 20 = .ok (.invokestatic 81, 3) := by decide +kernel
theorem dX5_cheapest_23 : decode cX5_cheapest 23 = .ok (.ifCond .ne 6, 3) := by decide +kernel
theorem dX5_cheapest_26 : decode cX5_cheapest 26 = .ok (.bipush (-2), 2) := by decide +kernel
theorem dX5_cheapest_28 : decode cX5_cheapest 28 = .ok (.ireturn, 1) := by decide +kernel
theorem dX5_cheapest_29 : decode cX5_cheapest 29 = .ok (.iconst 0, 1) := by decide +kernel
theorem dX5_cheapest_30 : decode cX5_cheapest 30 = .ok (.istore 4, 2) := by decide +kernel
theorem dX5_cheapest_32 : decode cX5_cheapest 32 = .ok (.iconst 0, 1) := by decide +kernel
theorem dX5_cheapest_33 : decode cX5_cheapest 33 = .ok (.istore 5, 2) := by decide +kernel
theorem dX5_cheapest_35 : decode cX5_cheapest 35 = .ok (.iconst 0, 1) := by decide +kernel
theorem dX5_cheapest_36 : decode cX5_cheapest 36 = .ok (.istore 6, 2) := by decide +kernel
theorem dX5_cheapest_38 : decode cX5_cheapest 38 = .ok (.iload 6, 2) := by decide +kernel
theorem dX5_cheapest_40 : decode cX5_cheapest 40 = .ok (.iconst 3, 1) := by decide +kernel
theorem dX5_cheapest_41 : decode cX5_cheapest 41 = .ok (.if_icmp .ge 97, 3) := by decide +kernel
theorem dX5_cheapest_44 : decode cX5_cheapest 44 = .ok (.aload_n 0, 1) := by decide +kernel
theorem dX5_cheapest_45 : decode cX5_cheapest 45 = .ok (.getfield 7, 3) := by decide +kernel
theorem dX5_cheapest_48 : decode cX5_cheapest 48 = .ok (.iconst 0, 1) := by decide +kernel
theorem dX5_cheapest_49 : decode cX5_cheapest 49 = .ok (.iload_n 3, 1) := by decide +kernel
theorem dX5_cheapest_50 : decode cX5_cheapest 50 = .ok (.invokestatic 32, 3) := by decide +kernel
theorem dX5_cheapest_53 : decode cX5_cheapest 53 = .ok (.iconst 1, 1) := by decide +kernel
theorem dX5_cheapest_54 : decode cX5_cheapest 54 = .ok (.iadd, 1) := by decide +kernel
theorem dX5_cheapest_55 : decode cX5_cheapest 55 = .ok (.iaload, 1) := by decide +kernel
theorem dX5_cheapest_56 : decode cX5_cheapest 56 = .ok (.bipush 10, 2) := by decide +kernel
theorem dX5_cheapest_58 : decode cX5_cheapest 58 = .ok (.aload_n 0, 1) := by decide +kernel
theorem dX5_cheapest_59 : decode cX5_cheapest 59 = .ok (.getfield 7, 3) := by decide +kernel
theorem dX5_cheapest_62 : decode cX5_cheapest 62 = .ok (.bipush 9, 2) := by decide +kernel
theorem dX5_cheapest_64 : decode cX5_cheapest 64 = .ok (.iload 6, 2) := by decide +kernel
theorem dX5_cheapest_66 : decode cX5_cheapest 66 = .ok (.iadd, 1) := by decide +kernel
theorem dX5_cheapest_67 : decode cX5_cheapest 67 = .ok (.iaload, 1) := by decide +kernel
theorem dX5_cheapest_68 : decode cX5_cheapest 68 = .ok (.imul, 1) := by decide +kernel
theorem dX5_cheapest_69 : decode cX5_cheapest 69 = .ok (.iload_n 2, 1) := by decide +kernel
theorem dX5_cheapest_70 : decode cX5_cheapest 70 = .ok (.aload_n 0, 1) := by decide +kernel
theorem dX5_cheapest_71 : decode cX5_cheapest 71 = .ok (.getfield 7, 3) := by decide +kernel
theorem dX5_cheapest_74 : decode cX5_cheapest 74 = .ok (.bipush 12, 2) := by decide +kernel
theorem dX5_cheapest_76 : decode cX5_cheapest 76 = .ok (.iload 6, 2) := by decide +kernel
theorem dX5_cheapest_78 : decode cX5_cheapest 78 = .ok (.iadd, 1) := by decide +kernel
theorem dX5_cheapest_79 : decode cX5_cheapest 79 = .ok (.iaload, 1) := by decide +kernel
theorem dX5_cheapest_80 : decode cX5_cheapest 80 = .ok (.imul, 1) := by decide +kernel
theorem dX5_cheapest_81 : decode cX5_cheapest 81 = .ok (.iadd, 1) := by decide +kernel
theorem dX5_cheapest_82 : decode cX5_cheapest 82 = .ok (.imul, 1) := by decide +kernel
theorem dX5_cheapest_83 : decode cX5_cheapest 83 = .ok (.istore 7, 2) := by decide +kernel
theorem dX5_cheapest_85 : decode cX5_cheapest 85 = .ok (.iload 6, 2) := by decide +kernel
theorem dX5_cheapest_87 : decode cX5_cheapest 87 = .ok (.ifCond .eq 10, 3) := by decide +kernel
theorem dX5_cheapest_90 : decode cX5_cheapest 90 = .ok (.iload 7, 2) := by decide +kernel
theorem dX5_cheapest_92 : decode cX5_cheapest 92 = .ok (.iload 5, 2) := by decide +kernel
theorem dX5_cheapest_94 : decode cX5_cheapest 94 = .ok (.if_icmp .ge 7, 3) := by decide +kernel
theorem dX5_cheapest_97 : decode cX5_cheapest 97 = .ok (.iconst 1, 1) := by decide +kernel
theorem dX5_cheapest_98 : decode cX5_cheapest 98 = .ok (.goto 4, 3) := by decide +kernel
theorem dX5_cheapest_101 : decode cX5_cheapest 101 = .ok (.iconst 0, 1) := by decide +kernel
theorem dX5_cheapest_102 : decode cX5_cheapest 102 = .ok (.istore 8, 2) := by decide +kernel
theorem dX5_cheapest_104 : decode cX5_cheapest 104 = .ok (.iload 8, 2) := by decide +kernel
theorem dX5_cheapest_106 : decode cX5_cheapest 106 = .ok (.ifCond .eq 8, 3) := by decide +kernel
theorem dX5_cheapest_109 : decode cX5_cheapest 109 = .ok (.iload 6, 2) := by decide +kernel
theorem dX5_cheapest_111 : decode cX5_cheapest 111 = .ok (.goto 5, 3) := by decide +kernel
theorem dX5_cheapest_114 : decode cX5_cheapest 114 = .ok (.iload 4, 2) := by decide +kernel
theorem dX5_cheapest_116 : decode cX5_cheapest 116 = .ok (.istore 4, 2) := by decide +kernel
theorem dX5_cheapest_118 : decode cX5_cheapest 118 = .ok (.iload 8, 2) := by decide +kernel
theorem dX5_cheapest_120 : decode cX5_cheapest 120 = .ok (.ifCond .eq 8, 3) := by decide +kernel
theorem dX5_cheapest_123 : decode cX5_cheapest 123 = .ok (.iload 7, 2) := by decide +kernel
theorem dX5_cheapest_125 : decode cX5_cheapest 125 = .ok (.goto 5, 3) := by decide +kernel
theorem dX5_cheapest_128 : decode cX5_cheapest 128 = .ok (.iload 5, 2) := by decide +kernel
theorem dX5_cheapest_130 : decode cX5_cheapest 130 = .ok (.istore 5, 2) := by decide +kernel
theorem dX5_cheapest_132 : decode cX5_cheapest 132 = .ok (.iinc 6 1, 3) := by decide +kernel
theorem dX5_cheapest_135 : decode cX5_cheapest 135 = .ok (.goto (-97), 3) := by decide +kernel
theorem dX5_cheapest_138 : decode cX5_cheapest 138 = .ok (.iload 4, 2) := by decide +kernel
theorem dX5_cheapest_140 : decode cX5_cheapest 140 = .ok (.ireturn, 1) := by decide +kernel
