theorem dX4_init_0 : decode cX4_init 0 = .ok (.aload_n 0, 1) := by decide +kernel
theorem dX4_init_1 : decode cX4_init 1 = .ok (.invokespecial 1, 3) := by decide +kernel
theorem dX4_init_4 : decode cX4_init 4 = .ok (.aload_n 0, 1) := by decide +kernel
theorem dX4_init_5 : decode cX4_init 5 = .ok (.new 7, 3) := by decide +kernel
theorem dX4_init_8 : decode cX4_init 8 = .ok (.dup, 1) := by decide +kernel
theorem dX4_init_9 : decode cX4_init 9 = .ok (.invokespecial 9, 3) := by decide +kernel
theorem dX4_init_12 : decode cX4_init 12 = .ok (.putfield 10, 3) := by decide +kernel
theorem dX4_init_15 : decode cX4_init 15 = .ok (.aload_n 0, 1) := by decide +kernel
theorem dX4_init_16 : decode cX4_init 16 = .ok (.new 7, 3) := by decide +kernel
theorem dX4_init_19 : decode cX4_init 19 = .ok (.dup, 1) := by decide +kernel
theorem dX4_init_20 : decode cX4_init 20 = .ok (.invokespecial 9, 3) := by decide +kernel
theorem dX4_init_23 : decode cX4_init 23 = .ok (.putfield 16, 3) := by decide +kernel
theorem dX4_init_26 : decode cX4_init 26 = .ok (.aload_n 0, 1) := by decide +kernel
theorem dX4_init_27 : decode cX4_init 27 = .ok (.new 7, 3) := by decide +kernel
theorem dX4_init_30 : decode cX4_init 30 = .ok (.dup, 1) := by decide +kernel
theorem dX4_init_31 : decode cX4_init 31 = .ok (.invokespecial 9, 3) := by decide +kernel
theorem dX4_init_34 : decode cX4_init 34 = .ok (.putfield 19, 3) := by decide +kernel
theorem dX4_init_37 : decode cX4_init 37 = .ok (.aload_n 0, 1) := by decide +kernel
theorem dX4_init_38 : decode cX4_init 38 = .ok (.iconst 0, 1) := by decide +kernel
theorem dX4_init_39 : decode cX4_init 39 = .ok (.putfield 22, 3) := by decide +kernel
theorem dX4_init_42 : decode cX4_init 42 = .ok (.aload_n 0, 1) := by decide +kernel
theorem dX4_init_43 : decode cX4_init 43 = .ok (.new 26, 3) := by decide +kernel
theorem dX4_init_46 : decode cX4_init 46 = .ok (.dup, 1) := by decide +kernel
theorem dX4_init_47 : decode cX4_init 47 = .ok (.invokespecial 28, 3) := by decide +kernel
theorem dX4_init_50 : decode cX4_init 50 = .ok (.putfield 29, 3) := by decide +kernel
theorem dX4_init_53 : decode cX4_init 53 = .ok (.aload_n 0, 1) := by decide +kernel
theorem dX4_init_54 : decode cX4_init 54 = .ok (.new 33, 3) := by decide +kernel
theorem dX4_init_57 : decode cX4_init 57 = .ok (.dup, 1) := by decide +kernel
theorem dX4_init_58 : decode cX4_init 58 = .ok (.invokespecial 35, 3) := by decide +kernel
theorem dX4_init_61 : decode cX4_init 61 = .ok (.putfield 36, 3) := by decide +kernel
theorem dX4_init_64 : decode cX4_init 64 = .ok (.aload_n 0, 1) := by decide +kernel
theorem dX4_init_65 : decode cX4_init 65 = .ok (.new 40, 3) := by decide +kernel
theorem dX4_init_68 : decode cX4_init 68 = .ok (.dup, 1) := by decide +kernel
theorem dX4_init_69 : decode cX4_init 69 = .ok (.invokespecial 42, 3) := by decide +kernel
theorem dX4_init_72 : decode cX4_init 72 = .ok (.putfield 43, 3) := by decide +kernel
theorem dX4_init_75 : decode cX4_init 75 = .ok (.return_, 1) := by decide +kernel
theorem dX4_add_0 : decode cX4_add 0 = .ok (.aload_n 0, 1) := by decide +kernel
theorem dX4_add_1 : decode cX4_add 1 = .ok (.getfield 16, 3) := by decide +kernel
theorem dX4_add_4 : decode cX4_add 4 = .ok (.aload_n 0, 1) := by decide +kernel
theorem dX4_add_5 : decode cX4_add 5 = .ok (.getfield 10, 3) := by decide +kernel
theorem dX4_add_8 : decode cX4_add 8 = .ok (.invokevirtual 47, 3) := by decide +kernel
theorem dX4_add_11 : decode cX4_add 11 = .ok (.aload_n 0, 1) := by decide +kernel
theorem dX4_add_12 : decode cX4_add 12 = .ok (.aload_n 0, 1) := by decide +kernel
theorem dX4_add_13 : decode cX4_add 13 = .ok (.getfield 16, 3) := by decide +kernel
theorem dX4_add_16 : decode cX4_add 16 = .ok (.iload_n 1, 1) := by decide +kernel
theorem dX4_add_17 : decode cX4_add 17 = .ok (.invokevirtual 51, 3) := by decide +kernel
theorem dX4_add_20 : decode cX4_add 20 = .ok (.invokevirtual 55, 3) := by decide +kernel
theorem dX4_add_23 : decode cX4_add 23 = .ok (.ireturn, 1) := by decide +kernel
theorem dX4_remove_0 : decode cX4_remove 0 = .ok (.aload_n 0, 1) := by decide +kernel
theorem dX4_remove_1 : decode cX4_remove 1 = .ok (.getfield 16, 3) := by decide +kernel
theorem dX4_remove_4 : decode cX4_remove 4 = .ok (.aload_n 0, 1) := by decide +kernel
theorem dX4_remove_5 : decode cX4_remove 5 = .ok (.getfield 10, 3) := by decide +kernel
theorem dX4_remove_8 : decode cX4_remove 8 = .ok (.invokevirtual 47, 3) := by decide +kernel
theorem dX4_remove_11 : decode cX4_remove 11 = .ok (.aload_n 0, 1) := by decide +kernel
theorem dX4_remove_12 : decode cX4_remove 12 = .ok (.aload_n 0, 1) := by decide +kernel
theorem dX4_remove_13 : decode cX4_remove 13 = .ok (.getfield 16, 3) := by decide +kernel
theorem dX4_remove_16 : decode cX4_remove 16 = .ok (.iload_n 1, 1) := by decide +kernel
theorem dX4_remove_17 : decode cX4_remove 17 = .ok (.invokevirtual 58, 3) := by decide +kernel
theorem dX4_remove_20 : decode cX4_remove 20 = .ok (.invokevirtual 55, 3) := by decide +kernel
theorem dX4_remove_23 : decode cX4_remove 23 = .ok (.ireturn, 1) := by decide +kernel
theorem dX4_read_0 : decode cX4_read 0 = .ok (.aload_n 0, 1) := by decide +kernel
theorem dX4_read_1 : decode cX4_read 1 = .ok (.getfield 16, 3) := by decide +kernel
theorem dX4_read_4 : decode cX4_read 4 = .ok (.aload_n 0, 1) := by decide +kernel
theorem dX4_read_5 : decode cX4_read 5 = .ok (.getfield 10, 3) := by decide +kernel
theorem dX4_read_8 : decode cX4_read 8 = .ok (.invokevirtual 47, 3) := by decide +kernel
theorem dX4_read_11 : decode cX4_read 11 = .ok (.aload_n 0, 1) := by decide +kernel
theorem dX4_read_12 : decode cX4_read 12 = .ok (.aload_n 0, 1) := by decide +kernel
theorem dX4_read_13 : decode cX4_read 13 = .ok (.getfield 16, 3) := by decide +kernel
theorem dX4_read_16 : decode cX4_read 16 = .ok (.iload_n 1, 1) := by decide +kernel
theorem dX4_read_17 : decode cX4_read 17 = .ok (.iload_n 2, 1) := by decide +kernel
theorem dX4_read_18 : decode cX4_read 18 = .ok (.invokevirtual 61, 3) := by decide +kernel
theorem dX4_read_21 : decode cX4_read 21 = .ok (.invokevirtual 55, 3) := by decide +kernel
theorem dX4_read_24 : decode cX4_read 24 = .ok (.ireturn, 1) := by decide +kernel
theorem dX4_pin_0 : decode cX4_pin 0 = .ok (.aload_n 0, 1) := by decide +kernel
theorem dX4_pin_1 : decode cX4_pin 1 = .ok (.getfield 16, 3) := by decide +kernel
theorem dX4_pin_4 : decode cX4_pin 4 = .ok (.aload_n 0, 1) := by decide +kernel
theorem dX4_pin_5 : decode cX4_pin 5 = .ok (.getfield 10, 3) := by decide +kernel
theorem dX4_pin_8 : decode cX4_pin 8 = .ok (.invokevirtual 47, 3) := by decide +kernel
theorem dX4_pin_11 : decode cX4_pin 11 = .ok (.aload_n 0, 1) := by decide +kernel
theorem dX4_pin_12 : decode cX4_pin 12 = .ok (.aload_n 0, 1) := by decide +kernel
theorem dX4_pin_13 : decode cX4_pin 13 = .ok (.getfield 16, 3) := by decide +kernel
theorem dX4_pin_16 : decode cX4_pin 16 = .ok (.iload_n 1, 1) := by decide +kernel
theorem dX4_pin_17 : decode cX4_pin 17 = .ok (.iload_n 2, 1) := by decide +kernel
theorem dX4_pin_18 : decode cX4_pin 18 = .ok (.invokevirtual 65, 3) := by decide +kernel
theorem dX4_pin_21 : decode cX4_pin 21 = .ok (.invokevirtual 55, 3) := by decide +kernel
theorem dX4_pin_24 : decode cX4_pin 24 = .ok (.ireturn, 1) := by decide +kernel
theorem dX4_pass_0 : decode cX4_pass 0 = .ok (.aload_n 0, 1) := by decide +kernel
theorem dX4_pass_1 : decode cX4_pass 1 = .ok (.getfield 16, 3) := by decide +kernel
theorem dX4_pass_4 : decode cX4_pass 4 = .ok (.aload_n 0, 1) := by decide +kernel
theorem dX4_pass_5 : decode cX4_pass 5 = .ok (.getfield 10, 3) := by decide +kernel
theorem dX4_pass_8 : decode cX4_pass 8 = .ok (.invokevirtual 47, 3) := by decide +kernel
theorem dX4_pass_11 : decode cX4_pass 11 = .ok (.aload_n 0, 1) := by decide +kernel
theorem dX4_pass_12 : decode cX4_pass 12 = .ok (.aload_n 0, 1) := by decide +kernel
theorem dX4_pass_13 : decode cX4_pass 13 = .ok (.iload_n 1, 1) := by decide +kernel
theorem dX4_pass_14 : decode cX4_pass 14 = .ok (.invokevirtual 69, 3) := by decide +kernel
theorem dX4_pass_17 : decode cX4_pass 17 = .ok (.invokevirtual 55, 3) := by decide +kernel
theorem dX4_pass_20 : decode cX4_pass 20 = .ok (.ireturn, 1) := by decide +kernel
theorem dX4_set_0 : decode cX4_set 0 = .ok (.aload_n 0, 1) := by decide +kernel
theorem dX4_set_1 : decode cX4_set 1 = .ok (.getfield 16, 3) := by decide +kernel
theorem dX4_set_4 : decode cX4_set 4 = .ok (.aload_n 0, 1) := by decide +kernel
theorem dX4_set_5 : decode cX4_set 5 = .ok (.getfield 10, 3) := by decide +kernel
theorem dX4_set_8 : decode cX4_set 8 = .ok (.invokevirtual 47, 3) := by decide +kernel
theorem dX4_set_11 : decode cX4_set 11 = .ok (.aload_n 0, 1) := by decide +kernel
theorem dX4_set_12 : decode cX4_set 12 = .ok (.aload_n 0, 1) := by decide +kernel
theorem dX4_set_13 : decode cX4_set 13 = .ok (.getfield 16, 3) := by decide +kernel
theorem dX4_set_16 : decode cX4_set 16 = .ok (.iload_n 1, 1) := by decide +kernel
theorem dX4_set_17 : decode cX4_set 17 = .ok (.iload_n 2, 1) := by decide +kernel
theorem dX4_set_18 : decode cX4_set 18 = .ok (.invokevirtual 72, 3) := by decide +kernel
theorem dX4_set_21 : decode cX4_set 21 = .ok (.invokevirtual 55, 3) := by decide +kernel
theorem dX4_set_24 : decode cX4_set 24 = .ok (.ireturn, 1) := by decide +kernel
theorem dX4_undo_0 : decode cX4_undo 0 = .ok (.aload_n 0, 1) := by decide +kernel
theorem dX4_undo_1 : decode cX4_undo 1 = .ok (.getfield 29, 3) := by decide +kernel
theorem dX4_undo_4 : decode cX4_undo 4 = .ok (.aload_n 0, 1) := by decide +kernel
theorem dX4_undo_5 : decode cX4_undo 5 = .ok (.getfield 10, 3) := by decide +kernel
theorem dX4_undo_8 : decode cX4_undo 8 = .ok (.invokevirtual 93, 3) := by decide +kernel
theorem dX4_undo_11 : decode cX4_undo 11 = .ok (.ifCond .ne 6, 3) := by decide +kernel
theorem dX4_undo_14 : decode cX4_undo 14 = .ok (.bipush (-5), 2) := by decide +kernel
theorem dX4_undo_16 : decode cX4_undo 16 = .ok (.ireturn, 1) := by decide +kernel
theorem dX4_undo_17 : decode cX4_undo 17 = .ok (.aload_n 0, 1) := by decide +kernel
theorem dX4_undo_18 : decode cX4_undo 18 = .ok (.getfield 29, 3) := by decide +kernel
theorem dX4_undo_21 : decode cX4_undo 21 = .ok (.getfield 97, 3) := by decide +kernel
theorem dX4_undo_24 : decode cX4_undo 24 = .ok (.ireturn, 1) := by decide +kernel
theorem dX4_restore_0 : decode cX4_restore 0 = .ok (.aload_n 0, 1) := by decide +kernel
theorem dX4_restore_1 : decode cX4_restore 1 = .ok (.getfield 22, 3) := by decide +kernel
theorem dX4_restore_4 : decode cX4_restore 4 = .ok (.ifCond .ne 6, 3) := by decide +kernel
theorem dX4_restore_7 : decode cX4_restore 7 = .ok (.bipush (-5), 2) := by decide +kernel
theorem dX4_restore_9 : decode cX4_restore 9 = .ok (.ireturn, 1) := by decide +kernel
theorem dX4_restore_10 : decode cX4_restore 10 = .ok (.aload_n 0, 1) := by decide +kernel
theorem dX4_restore_11 : decode cX4_restore 11 = .ok (.getfield 16, 3) := by decide +kernel
theorem dX4_restore_14 : decode cX4_restore 14 = .ok (.aload_n 0, 1) := by decide +kernel
theorem dX4_restore_15 : decode cX4_restore 15 = .ok (.getfield 19, 3) := by decide +kernel
theorem dX4_restore_18 : decode cX4_restore 18 = .ok (.invokevirtual 47, 3) := by decide +kernel
theorem dX4_restore_21 : decode cX4_restore 21 = .ok (.aload_n 0, 1) := by decide +kernel
theorem dX4_restore_22 : decode cX4_restore 22 = .ok (.aload_n 0, 1) := by decide +kernel
theorem dX4_restore_23 : decode cX4_restore 23 = .ok (.getfield 19, 3) := by decide +kernel
theorem dX4_restore_26 : decode cX4_restore 26 = .ok (.invokevirtual 98, 3) := by decide +kernel
theorem dX4_restore_29 : decode cX4_restore 29 = .ok (.invokevirtual 55, 3) := by decide +kernel
theorem dX4_restore_32 : decode cX4_restore 32 = .ok (.ireturn, 1) := by decide +kernel
theorem dX4_block_0 : decode cX4_block 0 = .ok (.iload_n 1, 1) := by decide +kernel
theorem dX4_block_1 : decode cX4_block 1 = .ok (.ifCond .ge 6, 3) := by decide +kernel
theorem dX4_block_4 : decode cX4_block 4 = .ok (.bipush (-2), 2) := by decide +kernel
theorem dX4_block_6 : decode cX4_block 6 = .ok (.ireturn, 1) := by decide +kernel
theorem dX4_block_7 : decode cX4_block 7 = .ok (.aload_n 0, 1) := by decide +kernel
theorem dX4_block_8 : decode cX4_block 8 = .ok (.getfield 10, 3) := by decide +kernel
theorem dX4_block_11 : decode cX4_block 11 = .ok (.iload_n 1, 1) := by decide +kernel
theorem dX4_block_12 : decode cX4_block 12 = .ok (.invokevirtual 101, 3) := by decide +kernel
theorem dX4_block_15 : decode cX4_block 15 = .ok (.istore_n 2, 1) := by decide +kernel
theorem dX4_block_16 : decode cX4_block 16 = .ok (.iload_n 2, 1) := by decide +kernel
theorem dX4_block_17 : decode cX4_block 17 = .ok (.iconst (-1), 1) := by decide +kernel
theorem dX4_block_18 : decode cX4_block 18 = .ok (.if_icmp .ne 8, 3) := by decide +kernel
theorem dX4_block_21 : decode cX4_block 21 = .ok (.bipush (-5), 2) := by decide +kernel
theorem dX4_block_23 : decode cX4_block 23 = .ok (.goto 14, 3) := by decide +kernel
theorem dX4_block_26 : decode cX4_block 26 = .ok (.aload_n 0, 1) := by decide +kernel
theorem dX4_block_27 : decode cX4_block 27 = .ok (.getfield 10, 3) := by decide +kernel
theorem dX4_block_30 : decode cX4_block 30 = .ok (.getfield 104, 3) := by decide +kernel
theorem dX4_block_33 : decode cX4_block 33 = .ok (.iload_n 2, 1) := by decide +kernel
theorem dX4_block_34 : decode cX4_block 34 = .ok (.invokestatic 108, 3) := by decide +kernel
theorem dX4_block_37 : decode cX4_block 37 = .ok (.ireturn, 1) := by decide +kernel
theorem dX4_ofBlock_0 : decode cX4_ofBlock 0 = .ok (.aload_n 0, 1) := by decide +kernel
theorem dX4_ofBlock_1 : decode cX4_ofBlock 1 = .ok (.getfield 10, 3) := by decide +kernel
theorem dX4_ofBlock_4 : decode cX4_ofBlock 4 = .ok (.iload_n 1, 1) := by decide +kernel
theorem dX4_ofBlock_5 : decode cX4_ofBlock 5 = .ok (.invokevirtual 112, 3) := by decide +kernel
theorem dX4_ofBlock_8 : decode cX4_ofBlock 8 = .ok (.istore_n 3, 1) := by decide +kernel
theorem dX4_ofBlock_9 : decode cX4_ofBlock 9 = .ok (.iload_n 3, 1) := by decide +kernel
theorem dX4_ofBlock_10 : decode cX4_ofBlock 10 = .ok (.iconst (-1), 1) := by decide +kernel
theorem dX4_ofBlock_11 : decode cX4_ofBlock 11 = .ok (.if_icmp .ne 5, 3) := by decide +kernel
theorem dX4_ofBlock_14 : decode cX4_ofBlock 14 = .ok (.iconst (-1), 1) := by decide +kernel
theorem dX4_ofBlock_15 : decode cX4_ofBlock 15 = .ok (.ireturn, 1) := by decide +kernel
theorem dX4_ofBlock_16 : decode cX4_ofBlock 16 = .ok (.iload_n 2, 1) := by decide +kernel
theorem dX4_ofBlock_17 : decode cX4_ofBlock 17 = .ok (.tableswitch 150 0 8 #[51, 63, 75, 87, 96, 108, 120, 132, 144], 51) := by decide +kernel
theorem dX4_ofBlock_68 : decode cX4_ofBlock 68 = .ok (.aload_n 0, 1) := by decide +kernel
theorem dX4_ofBlock_69 : decode cX4_ofBlock 69 = .ok (.getfield 10, 3) := by decide +kernel
theorem dX4_ofBlock_72 : decode cX4_ofBlock 72 = .ok (.getfield 115, 3) := by decide +kernel
theorem dX4_ofBlock_75 : decode cX4_ofBlock 75 = .ok (.iload_n 3, 1) := by decide +kernel
theorem dX4_ofBlock_76 : decode cX4_ofBlock 76 = .ok (.invokestatic 108, 3) := by decide +kernel
theorem dX4_ofBlock_79 : decode cX4_ofBlock 79 = .ok (.ireturn, 1) := by decide +kernel
theorem dX4_ofBlock_80 : decode cX4_ofBlock 80 = .ok (.aload_n 0, 1) := by decide +kernel
theorem dX4_ofBlock_81 : decode cX4_ofBlock 81 = .ok (.getfield 10, 3) := by decide +kernel
theorem dX4_ofBlock_84 : decode cX4_ofBlock 84 = .ok (.getfield 118, 3) := by decide +kernel
theorem dX4_ofBlock_87 : decode cX4_ofBlock 87 = .ok (.iload_n 3, 1) := by decide +kernel
theorem dX4_ofBlock_88 : decode cX4_ofBlock 88 = .ok (.invokestatic 108, 3) := by decide +kernel
theorem dX4_ofBlock_91 : decode cX4_ofBlock 91 = .ok (.ireturn, 1) := by decide +kernel
theorem dX4_ofBlock_92 : decode cX4_ofBlock 92 = .ok (.aload_n 0, 1) := by decide +kernel
theorem dX4_ofBlock_93 : decode cX4_ofBlock 93 = .ok (.getfield 10, 3) := by decide +kernel
theorem dX4_ofBlock_96 : decode cX4_ofBlock 96 = .ok (.getfield 121, 3) := by decide +kernel
theorem dX4_ofBlock_99 : decode cX4_ofBlock 99 = .ok (.iload_n 3, 1) := by decide +kernel
theorem dX4_ofBlock_100 : decode cX4_ofBlock 100 = .ok (.invokestatic 108, 3) := by decide +kernel
theorem dX4_ofBlock_103 : decode cX4_ofBlock 103 = .ok (.ireturn, 1) := by decide +kernel
theorem dX4_ofBlock_104 : decode cX4_ofBlock 104 = .ok (.aload_n 0, 1) := by decide +kernel
theorem dX4_ofBlock_105 : decode cX4_ofBlock 105 = .ok (.getfield 10, 3) := by decide +kernel
theorem dX4_ofBlock_108 : decode cX4_ofBlock 108 = .ok (.iload_n 3, 1) := by decide +kernel
theorem dX4_ofBlock_109 : decode cX4_ofBlock 109 = .ok (.invokevirtual 124, 3) := by decide +kernel
theorem dX4_ofBlock_112 : decode cX4_ofBlock 112 = .ok (.ireturn, 1) := by decide +kernel
theorem dX4_ofBlock_113 : decode cX4_ofBlock 113 = .ok (.aload_n 0, 1) := by decide +kernel
theorem dX4_ofBlock_114 : decode cX4_ofBlock 114 = .ok (.getfield 10, 3) := by decide +kernel
theorem dX4_ofBlock_117 : decode cX4_ofBlock 117 = .ok (.getfield 127, 3) := by decide +kernel
theorem dX4_ofBlock_120 : decode cX4_ofBlock 120 = .ok (.iload_n 3, 1) := by decide +kernel
theorem dX4_ofBlock_121 : decode cX4_ofBlock 121 = .ok (.invokestatic 108, 3) := by decide +kernel
theorem dX4_ofBlock_124 : decode cX4_ofBlock 124 = .ok (.ireturn, 1) := by decide +kernel
theorem dX4_ofBlock_125 : decode cX4_ofBlock 125 = .ok (.aload_n 0, 1) := by decide +kernel
theorem dX4_ofBlock_126 : decode cX4_ofBlock 126 = .ok (.getfield 10, 3) := by decide +kernel
theorem dX4_ofBlock_129 : decode cX4_ofBlock 129 = .ok (.getfield 130, 3) := by decide +kernel
theorem dX4_ofBlock_132 : decode cX4_ofBlock 132 = .ok (.iload_n 3, 1) := by decide +kernel
theorem dX4_ofBlock_133 : decode cX4_ofBlock 133 = .ok (.invokestatic 108, 3) := by decide +kernel
theorem dX4_ofBlock_136 : decode cX4_ofBlock 136 = .ok (.ireturn, 1) := by decide +kernel
theorem dX4_ofBlock_137 : decode cX4_ofBlock 137 = .ok (.aload_n 0, 1) := by decide +kernel
theorem dX4_ofBlock_138 : decode cX4_ofBlock 138 = .ok (.getfield 10, 3) := by decide +kernel
theorem dX4_ofBlock_141 : decode cX4_ofBlock 141 = .ok (.getfield 133, 3) := by decide +kernel
theorem dX4_ofBlock_144 : decode cX4_ofBlock 144 = .ok (.iload_n 3, 1) := by decide +kernel
theorem dX4_ofBlock_145 : decode cX4_ofBlock 145 = .ok (.invokestatic 108, 3) := by decide +kernel
theorem dX4_ofBlock_148 : decode cX4_ofBlock 148 = .ok (.ireturn, 1) := by decide +kernel
theorem dX4_ofBlock_149 : decode cX4_ofBlock 149 = .ok (.aload_n 0, 1) := by decide +kernel
theorem dX4_ofBlock_150 : decode cX4_ofBlock 150 = .ok (.getfield 10, 3) := by decide +kernel
theorem dX4_ofBlock_153 : decode cX4_ofBlock 153 = .ok (.getfield 136, 3) := by decide +kernel
theorem dX4_ofBlock_156 : decode cX4_ofBlock 156 = .ok (.iload_n 3, 1) := by decide +kernel
theorem dX4_ofBlock_157 : decode cX4_ofBlock 157 = .ok (.invokestatic 108, 3) := by decide +kernel
theorem dX4_ofBlock_160 : decode cX4_ofBlock 160 = .ok (.ireturn, 1) := by decide +kernel
theorem dX4_ofBlock_161 : decode cX4_ofBlock 161 = .ok (.aload_n 0, 1) := by decide +kernel
theorem dX4_ofBlock_162 : decode cX4_ofBlock 162 = .ok (.iload_n 3, 1) := by decide +kernel
theorem dX4_ofBlock_163 : decode cX4_ofBlock 163 = .ok (.invokevirtual 139, 3) := by decide +kernel
theorem dX4_ofBlock_166 : decode cX4_ofBlock 166 = .ok (.ireturn, 1) := by decide +kernel
theorem dX4_ofBlock_167 : decode cX4_ofBlock 167 = .ok (.bipush (-2), 2) := by decide +kernel
theorem dX4_ofBlock_169 : decode cX4_ofBlock 169 = .ok (.ireturn, 1) := by decide +kernel
theorem dX4_shelf_0 : decode cX4_shelf 0 = .ok (.iload_n 1, 1) := by decide +kernel
theorem dX4_shelf_1 : decode cX4_shelf 1 = .ok (.ifCond .lt 8, 3) := by decide +kernel
theorem dX4_shelf_4 : decode cX4_shelf 4 = .ok (.iload_n 1, 1) := by decide +kernel
theorem dX4_shelf_5 : decode cX4_shelf 5 = .ok (.iconst 3, 1) := by decide +kernel
theorem dX4_shelf_6 : decode cX4_shelf 6 = .ok (.if_icmp .lt 5, 3) := by decide +kernel
theorem dX4_shelf_9 : decode cX4_shelf 9 = .ok (.iconst (-1), 1) := by decide +kernel
theorem dX4_shelf_10 : decode cX4_shelf 10 = .ok (.ireturn, 1) := by decide +kernel
theorem dX4_shelf_11 : decode cX4_shelf 11 = .ok (.iload_n 2, 1) := by decide +kernel
theorem dX4_shelf_12 : decode cX4_shelf 12 = .ok (.tableswitch 90 0 4 #[36, 51, 63, 72, 81], 36) := by decide +kernel
theorem dX4_shelf_48 : decode cX4_shelf 48 = .ok (.aload_n 0, 1) := by decide +kernel
theorem dX4_shelf_49 : decode cX4_shelf 49 = .ok (.getfield 10, 3) := by decide +kernel
theorem dX4_shelf_52 : decode cX4_shelf 52 = .ok (.getfield 142, 3) := by decide +kernel
theorem dX4_shelf_55 : decode cX4_shelf 55 = .ok (.bipush 6, 2) := by decide +kernel
theorem dX4_shelf_57 : decode cX4_shelf 57 = .ok (.iload_n 1, 1) := by decide +kernel
theorem dX4_shelf_58 : decode cX4_shelf 58 = .ok (.iadd, 1) := by decide +kernel
theorem dX4_shelf_59 : decode cX4_shelf 59 = .ok (.invokestatic 108, 3) := by decide +kernel
theorem dX4_shelf_62 : decode cX4_shelf 62 = .ok (.ireturn, 1) := by decide +kernel
theorem dX4_shelf_63 : decode cX4_shelf 63 = .ok (.aload_n 0, 1) := by decide +kernel
theorem dX4_shelf_64 : decode cX4_shelf 64 = .ok (.getfield 10, 3) := by decide +kernel
theorem dX4_shelf_67 : decode cX4_shelf 67 = .ok (.getfield 145, 3) := by decide +kernel
theorem dX4_shelf_70 : decode cX4_shelf 70 = .ok (.iload_n 1, 1) := by decide +kernel
theorem dX4_shelf_71 : decode cX4_shelf 71 = .ok (.invokestatic 108, 3) := by decide +kernel
theorem dX4_shelf_74 : decode cX4_shelf 74 = .ok (.ireturn, 1) := by decide +kernel
theorem dX4_shelf_75 : decode cX4_shelf 75 = .ok (.aload_n 0, 1) := by decide +kernel
theorem dX4_shelf_76 : decode cX4_shelf 76 = .ok (.getfield 10, 3) := by decide +kernel
theorem dX4_shelf_79 : decode cX4_shelf 79 = .ok (.iload_n 1, 1) := by decide +kernel
theorem dX4_shelf_80 : decode cX4_shelf 80 = .ok (.invokevirtual 148, 3) := by decide +kernel
theorem dX4_shelf_83 : decode cX4_shelf 83 = .ok (.ireturn, 1) := by decide +kernel
theorem dX4_shelf_84 : decode cX4_shelf 84 = .ok (.aload_n 0, 1) := by decide +kernel
theorem dX4_shelf_85 : decode cX4_shelf 85 = .ok (.getfield 10, 3) := by decide +kernel
theorem dX4_shelf_88 : decode cX4_shelf 88 = .ok (.iload_n 1, 1) := by decide +kernel
theorem dX4_shelf_89 : decode cX4_shelf 89 = .ok (.invokevirtual 151, 3) := by decide +kernel
theorem dX4_shelf_92 : decode cX4_shelf 92 = .ok (.ireturn, 1) := by decide +kernel
theorem dX4_shelf_93 : decode cX4_shelf 93 = .ok (.aload_n 0, 1) := by decide +kernel
theorem dX4_shelf_94 : decode cX4_shelf 94 = .ok (.getfield 10, 3) := by decide +kernel
theorem dX4_shelf_97 : decode cX4_shelf 97 = .ok (.iload_n 1, 1) := by decide +kernel
theorem dX4_shelf_98 : decode cX4_shelf 98 = .ok (.invokevirtual 154, 3) := by decide +kernel
theorem dX4_shelf_101 : decode cX4_shelf 101 = .ok (.ireturn, 1) := by decide +kernel
theorem dX4_shelf_102 : decode cX4_shelf 102 = .ok (.bipush (-2), 2) := by decide +kernel
theorem dX4_shelf_104 : decode cX4_shelf 104 = .ok (.ireturn, 1) := by decide +kernel
theorem dX4_total_0 : decode cX4_total 0 = .ok (.iload_n 1, 1) := by decide +kernel
theorem dX4_total_1 : decode cX4_total 1 = .ok (.ifCond .lt 21, 3) := by decide +kernel
theorem dX4_total_4 : decode cX4_total 4 = .ok (.iload_n 1, 1) := by decide +kernel
theorem dX4_total_5 : decode cX4_total 5 = .ok (.bipush 23, 2) := by decide +kernel
theorem dX4_total_7 : decode cX4_total 7 = .ok (.if_icmp .ge 15, 3) := by decide +kernel
theorem dX4_total_10 : decode cX4_total 10 = .ok (.aload_n 0, 1) := by decide +kernel
theorem dX4_total_11 : decode cX4_total 11 = .ok (.getfield 10, 3) := by decide +kernel
theorem dX4_total_14 : decode cX4_total 14 = .ok (.getfield 142, 3) := by decide +kernel
theorem dX4_total_17 : decode cX4_total 17 = .ok (.iload_n 1, 1) := by decide +kernel
theorem dX4_total_18 : decode cX4_total 18 = .ok (.invokestatic 108, 3) := by decide +kernel
theorem dX4_total_21 : decode cX4_total 21 = .ok (.ireturn, 1) := by decide +kernel
theorem dX4_total_22 : decode cX4_total 22 = .ok (.iload_n 1, 1) := by decide +kernel
theorem dX4_total_23 : decode cX4_total 23 = .ok (.tableswitch 61 23 26 #[29, 37, 45, 53], 29) := by decide +kernel
theorem dX4_total_52 : decode cX4_total 52 = .ok (.aload_n 0, 1) := by decide +kernel
theorem dX4_total_53 : decode cX4_total 53 = .ok (.getfield 10, 3) := by decide +kernel
theorem dX4_total_56 : decode cX4_total 56 = .ok (.invokevirtual 157, 3) := by decide +kernel
theorem dX4_total_59 : decode cX4_total 59 = .ok (.ireturn, 1) := by decide +kernel
theorem dX4_total_60 : decode cX4_total 60 = .ok (.aload_n 0, 1) := by decide +kernel
theorem dX4_total_61 : decode cX4_total 61 = .ok (.getfield 10, 3) := by decide +kernel
theorem dX4_total_64 : decode cX4_total 64 = .ok (.invokevirtual 160, 3) := by decide +kernel
theorem dX4_total_67 : decode cX4_total 67 = .ok (.ireturn, 1) := by decide +kernel
theorem dX4_total_68 : decode cX4_total 68 = .ok (.aload_n 0, 1) := by decide +kernel
theorem dX4_total_69 : decode cX4_total 69 = .ok (.getfield 29, 3) := by decide +kernel
theorem dX4_total_72 : decode cX4_total 72 = .ok (.getfield 97, 3) := by decide +kernel
theorem dX4_total_75 : decode cX4_total 75 = .ok (.ireturn, 1) := by decide +kernel
theorem dX4_total_76 : decode cX4_total 76 = .ok (.aload_n 0, 1) := by decide +kernel
theorem dX4_total_77 : decode cX4_total 77 = .ok (.getfield 43, 3) := by decide +kernel
theorem dX4_total_80 : decode cX4_total 80 = .ok (.getfield 163, 3) := by decide +kernel
theorem dX4_total_83 : decode cX4_total 83 = .ok (.ireturn, 1) := by decide +kernel
theorem dX4_total_84 : decode cX4_total 84 = .ok (.bipush (-2), 2) := by decide +kernel
theorem dX4_total_86 : decode cX4_total 86 = .ok (.ireturn, 1) := by decide +kernel
theorem dX4_ifPassed_0 : decode cX4_ifPassed 0 = .ok (.iload_n 1, 1) := by decide +kernel
theorem dX4_ifPassed_1 : decode cX4_ifPassed 1 = .ok (.iconst 1, 1) := by decide +kernel
theorem dX4_ifPassed_2 : decode cX4_ifPassed 2 = .ok (.if_icmp .lt 18, 3) := by decide +kernel
theorem dX4_ifPassed_5 : decode cX4_ifPassed 5 = .ok (.iload_n 1, 1) := by decide +kernel
theorem dX4_ifPassed_6 : decode cX4_ifPassed 6 = .ok (.bipush 99, 2) := by decide +kernel
theorem dX4_ifPassed_8 : decode cX4_ifPassed 8 = .ok (.if_icmp .gt 12, 3) := by decide +kernel
theorem dX4_ifPassed_11 : decode cX4_ifPassed 11 = .ok (.iload_n 2, 1) := by decide +kernel
theorem dX4_ifPassed_12 : decode cX4_ifPassed 12 = .ok (.ifCond .lt 8, 3) := by decide +kernel
theorem dX4_ifPassed_15 : decode cX4_ifPassed 15 = .ok (.iload_n 2, 1) := by decide +kernel
theorem dX4_ifPassed_16 : decode cX4_ifPassed 16 = .ok (.iconst 5, 1) := by decide +kernel
theorem dX4_ifPassed_17 : decode cX4_ifPassed 17 = .ok (.if_icmp .le 6, 3) := by decide +kernel
theorem dX4_ifPassed_20 : decode cX4_ifPassed 20 = .ok (.bipush (-2), 2) := by decide +kernel
theorem dX4_ifPassed_22 : decode cX4_ifPassed 22 = .ok (.ireturn, 1) := by decide +kernel
theorem dX4_ifPassed_23 : decode cX4_ifPassed 23 = .ok (.aload_n 0, 1) := by decide +kernel
theorem dX4_ifPassed_24 : decode cX4_ifPassed 24 = .ok (.getfield 16, 3) := by decide +kernel
theorem dX4_ifPassed_27 : decode cX4_ifPassed 27 = .ok (.aload_n 0, 1) := by decide +kernel
theorem dX4_ifPassed_28 : decode cX4_ifPassed 28 = .ok (.getfield 10, 3) := by decide +kernel
theorem dX4_ifPassed_31 : decode cX4_ifPassed 31 = .ok (.invokevirtual 47, 3) := by decide +kernel
theorem dX4_ifPassed_34 : decode cX4_ifPassed 34 = .ok (.aload_n 0, 1) := by decide +kernel
theorem dX4_ifPassed_35 : decode cX4_ifPassed 35 = .ok (.getfield 36, 3) := by decide +kernel
theorem dX4_ifPassed_38 : decode cX4_ifPassed 38 = .ok (.aload_n 0, 1) := by decide +kernel
theorem dX4_ifPassed_39 : decode cX4_ifPassed 39 = .ok (.getfield 16, 3) := by decide +kernel
theorem dX4_ifPassed_42 : decode cX4_ifPassed 42 = .ok (.iload_n 1, 1) := by decide +kernel
theorem dX4_ifPassed_43 : decode cX4_ifPassed 43 = .ok (.invokevirtual 166, 3) := by decide +kernel
theorem dX4_ifPassed_46 : decode cX4_ifPassed 46 = .ok (.istore_n 3, 1) := by decide +kernel
theorem dX4_ifPassed_47 : decode cX4_ifPassed 47 = .ok (.iload_n 2, 1) := by decide +kernel
theorem dX4_ifPassed_48 : decode cX4_ifPassed 48 = .ok (.tableswitch 43 0 2 #[28, 33, 35], 28) := by decide +kernel
theorem dX4_ifPassed_76 : decode cX4_ifPassed 76 = .ok (.aload_n 0, 1) := by decide +kernel
theorem dX4_ifPassed_77 : decode cX4_ifPassed 77 = .ok (.invokevirtual 170, 3) := by decide +kernel
theorem dX4_ifPassed_80 : decode cX4_ifPassed 80 = .ok (.ireturn, 1) := by decide +kernel
theorem dX4_ifPassed_81 : decode cX4_ifPassed 81 = .ok (.iload_n 3, 1) := by decide +kernel
theorem dX4_ifPassed_82 : decode cX4_ifPassed 82 = .ok (.ireturn, 1) := by decide +kernel
theorem dX4_ifPassed_83 : decode cX4_ifPassed 83 = .ok (.aload_n 0, 1) := by decide +kernel
theorem dX4_ifPassed_84 : decode cX4_ifPassed 84 = .ok (.getfield 16, 3) := by decide +kernel
theorem dX4_ifPassed_87 : decode cX4_ifPassed 87 = .ok (.invokevirtual 160, 3) := by decide +kernel
theorem dX4_ifPassed_90 : decode cX4_ifPassed 90 = .ok (.ireturn, 1) := by decide +kernel
theorem dX4_ifPassed_91 : decode cX4_ifPassed 91 = .ok (.aload_n 0, 1) := by decide +kernel
theorem dX4_ifPassed_92 : decode cX4_ifPassed 92 = .ok (.getfield 16, 3) := by decide +kernel
theorem dX4_ifPassed_95 : decode cX4_ifPassed 95 = .ok (.getfield 145, 3) := by decide +kernel
theorem dX4_ifPassed_98 : decode cX4_ifPassed 98 = .ok (.iload_n 2, 1) := by decide +kernel
theorem dX4_ifPassed_99 : decode cX4_ifPassed 99 = .ok (.iconst 3, 1) := by decide +kernel
theorem dX4_ifPassed_100 : decode cX4_ifPassed 100 = .ok (.isub, 1) := by decide +kernel
theorem dX4_ifPassed_101 : decode cX4_ifPassed 101 = .ok (.invokestatic 108, 3) := by decide +kernel
theorem dX4_ifPassed_104 : decode cX4_ifPassed 104 = .ok (.ireturn, 1) := by decide +kernel
theorem dX4_nextMove_0 : decode cX4_nextMove 0 = .ok (.aload_n 0, 1) := by decide +kernel
theorem dX4_nextMove_1 : decode cX4_nextMove 1 = .ok (.getfield 16, 3) := by decide +kernel
theorem dX4_nextMove_4 : decode cX4_nextMove 4 = .ok (.aload_n 0, 1) := by decide +kernel
theorem dX4_nextMove_5 : decode cX4_nextMove 5 = .ok (.getfield 10, 3) := by decide +kernel
theorem dX4_nextMove_8 : decode cX4_nextMove 8 = .ok (.invokevirtual 47, 3) := by decide +kernel
theorem dX4_nextMove_11 : decode cX4_nextMove 11 = .ok (.iconst 1, 1) := by decide +kernel
theorem dX4_nextMove_12 : decode cX4_nextMove 12 = .ok (.istore_n 1, 1) := by decide +kernel
theorem dX4_nextMove_13 : decode cX4_nextMove 13 = .ok (.iload_n 1, 1) := by decide +kernel
theorem dX4_nextMove_14 : decode cX4_nextMove 14 = .ok (.bipush 99, 2) := by decide +kernel
theorem dX4_nextMove_16 : decode cX4_nextMove 16 = .ok (.if_icmp .gt 26, 3) := by decide +kernel
theorem dX4_nextMove_19 : decode cX4_nextMove 19 = .ok (.aload_n 0, 1) := by decide +kernel
theorem dX4_nextMove_20 : decode cX4_nextMove 20 = .ok (.getfield 36, 3) := by decide +kernel
theorem dX4_nextMove_23 : decode cX4_nextMove 23 = .ok (.aload_n 0, 1) := by decide +kernel
theorem dX4_nextMove_24 : decode cX4_nextMove 24 = .ok (.getfield 16, 3) := by decide +kernel
theorem dX4_nextMove_27 : decode cX4_nextMove 27 = .ok (.iconst 1, 1) := by decide +kernel
theorem dX4_nextMove_28 : decode cX4_nextMove 28 = .ok (.invokevirtual 166, 3) := by decide +kernel
theorem dX4_nextMove_31 : decode cX4_nextMove 31 = .ok (.ifCond .le 5, 3) := by decide +kernel
theorem dX4_nextMove_34 : decode cX4_nextMove 34 = .ok (.iload_n 1, 1) := by decide +kernel
theorem dX4_nextMove_35 : decode cX4_nextMove 35 = .ok (.ireturn, 1) := by decide +kernel
theorem dX4_nextMove_36 : decode cX4_nextMove 36 = .ok (.iinc 1 1, 3) := by decide +kernel
theorem dX4_nextMove_39 : decode cX4_nextMove 39 = .ok (.goto (-26), 3) := by decide +kernel
theorem dX4_nextMove_42 : decode cX4_nextMove 42 = .ok (.bipush (-5), 2) := by decide +kernel
theorem dX4_nextMove_44 : decode cX4_nextMove 44 = .ok (.ireturn, 1) := by decide +kernel
theorem dX4_bestHot_0 : decode cX4_bestHot 0 = .ok (.iload_n 1, 1) := by decide +kernel
theorem dX4_bestHot_1 : decode cX4_bestHot 1 = .ok (.iconst 1, 1) := by decide +kernel
theorem dX4_bestHot_2 : decode cX4_bestHot 2 = .ok (.if_icmp .lt 18, 3) := by decide +kernel
theorem dX4_bestHot_5 : decode cX4_bestHot 5 = .ok (.iload_n 1, 1) := by decide +kernel
theorem dX4_bestHot_6 : decode cX4_bestHot 6 = .ok (.bipush 20, 2) := by decide +kernel
theorem dX4_bestHot_8 : decode cX4_bestHot 8 = .ok (.if_icmp .gt 12, 3) := by decide +kernel
theorem dX4_bestHot_11 : decode cX4_bestHot 11 = .ok (.iload_n 2, 1) := by decide +kernel
theorem dX4_bestHot_12 : decode cX4_bestHot 12 = .ok (.ifCond .lt 8, 3) := by decide +kernel
theorem dX4_bestHot_15 : decode cX4_bestHot 15 = .ok (.iload_n 2, 1) := by decide +kernel
theorem dX4_bestHot_16 : decode cX4_bestHot 16 = .ok (.iconst 1, 1) := by decide +kernel
theorem dX4_bestHot_17 : decode cX4_bestHot 17 = .ok (.if_icmp .le 6, 3) := by decide +kernel
theorem dX4_bestHot_20 : decode cX4_bestHot 20 = .ok (.bipush (-2), 2) := by decide +kernel
theorem dX4_bestHot_22 : decode cX4_bestHot 22 = .ok (.ireturn, 1) := by decide +kernel
theorem dX4_bestHot_23 : decode cX4_bestHot 23 = .ok (.aload_n 0, 1) := by decide +kernel
theorem dX4_bestHot_24 : decode cX4_bestHot 24 = .ok (.getfield 10, 3) := by decide +kernel
theorem dX4_bestHot_27 : decode cX4_bestHot 27 = .ok (.getfield 142, 3) := by decide +kernel
theorem dX4_bestHot_30 : decode cX4_bestHot 30 = .ok (.iconst 2, 1) := by decide +kernel
theorem dX4_bestHot_31 : decode cX4_bestHot 31 = .ok (.invokestatic 108, 3) := by decide +kernel
theorem dX4_bestHot_34 : decode cX4_bestHot 34 = .ok (.istore_n 3, 1) := by decide +kernel
theorem dX4_bestHot_35 : decode cX4_bestHot 35 = .ok (.getstatic 173, 3) := by decide +kernel
theorem dX4_bestHot_38 : decode cX4_bestHot 38 = .ok (.iconst 1, 1) := by decide +kernel
theorem dX4_bestHot_39 : decode cX4_bestHot 39 = .ok (.invokestatic 108, 3) := by decide +kernel
theorem dX4_bestHot_42 : decode cX4_bestHot 42 = .ok (.istore 4, 2) := by decide +kernel
theorem dX4_bestHot_44 : decode cX4_bestHot 44 = .ok (.iconst (-1), 1) := by decide +kernel
theorem dX4_bestHot_45 : decode cX4_bestHot 45 = .ok (.istore 5, 2) := by decide +kernel
theorem dX4_bestHot_47 : decode cX4_bestHot 47 = .ok (.iconst 0, 1) := by decide +kernel
theorem dX4_bestHot_48 : decode cX4_bestHot 48 = .ok (.istore 6, 2) := by decide +kernel
theorem dX4_bestHot_50 : decode cX4_bestHot 50 = .ok (.iconst 0, 1) := by decide +kernel
theorem dX4_bestHot_51 : decode cX4_bestHot 51 = .ok (.istore 7, 2) := by decide +kernel
theorem dX4_bestHot_53 : decode cX4_bestHot 53 = .ok (.iload 7, 2) := by decide +kernel
theorem dX4_bestHot_55 : decode cX4_bestHot 55 = .ok (.iload 4, 2) := by decide +kernel
theorem dX4_bestHot_57 : decode cX4_bestHot 57 = .ok (.if_icmp .gt 48, 3) := by decide +kernel
theorem dX4_bestHot_60 : decode cX4_bestHot 60 = .ok (.iload 7, 2) := by decide +kernel
theorem dX4_bestHot_62 : decode cX4_bestHot 62 = .ok (.iload_n 3, 1) := by decide +kernel
theorem dX4_bestHot_63 : decode cX4_bestHot 63 = .ok (.if_icmp .lt 33, 3) := by decide +kernel
theorem dX4_bestHot_66 : decode cX4_bestHot 66 = .ok (.aload_n 0, 1) := by decide +kernel
theorem dX4_bestHot_67 : decode cX4_bestHot 67 = .ok (.iload 7, 2) := by decide +kernel
theorem dX4_bestHot_69 : decode cX4_bestHot 69 = .ok (.iload_n 1, 1) := by decide +kernel
theorem dX4_bestHot_70 : decode cX4_bestHot 70 = .ok (.invokevirtual 176, 3) := by decide +kernel
theorem dX4_bestHot_73 : decode cX4_bestHot 73 = .ok (.istore 8, 2) := by decide +kernel
theorem dX4_bestHot_75 : decode cX4_bestHot 75 = .ok (.iload 5, 2) := by decide +kernel
theorem dX4_bestHot_77 : decode cX4_bestHot 77 = .ok (.iconst (-1), 1) := by decide +kernel
theorem dX4_bestHot_78 : decode cX4_bestHot 78 = .ok (.if_icmp .eq 10, 3) := by decide +kernel
theorem dX4_bestHot_81 : decode cX4_bestHot 81 = .ok (.iload 8, 2) := by decide +kernel
theorem dX4_bestHot_83 : decode cX4_bestHot 83 = .ok (.iload 6, 2) := by decide +kernel
theorem dX4_bestHot_85 : decode cX4_bestHot 85 = .ok (.if_icmp .ge 11, 3) := by decide +kernel
theorem dX4_bestHot_88 : decode cX4_bestHot 88 = .ok (.iload 7, 2) := by decide +kernel
theorem dX4_bestHot_90 : decode cX4_bestHot 90 = .ok (.istore 5, 2) := by decide +kernel
theorem dX4_bestHot_92 : decode cX4_bestHot 92 = .ok (.iload 8, 2) := by decide +kernel
theorem dX4_bestHot_94 : decode cX4_bestHot 94 = .ok (.istore 6, 2) := by decide +kernel
theorem dX4_bestHot_96 : decode cX4_bestHot 96 = .ok (.iinc 7 500, 6) := by decide +kernel
theorem dX4_bestHot_102 : decode cX4_bestHot 102 = .ok (.goto (-49), 3) := by decide +kernel
theorem dX4_bestHot_105 : decode cX4_bestHot 105 = .ok (.iload_n 2, 1) := by decide +kernel
theorem dX4_bestHot_106 : decode cX4_bestHot 106 = .ok (.ifCond .ne 8, 3) := by decide +kernel
theorem dX4_bestHot_109 : decode cX4_bestHot 109 = .ok (.iload 5, 2) := by decide +kernel
theorem dX4_bestHot_111 : decode cX4_bestHot 111 = .ok (.goto 5, 3) := by decide +kernel
theorem dX4_bestHot_114 : decode cX4_bestHot 114 = .ok (.iload 6, 2) := by decide +kernel
theorem dX4_bestHot_116 : decode cX4_bestHot 116 = .ok (.ireturn, 1) := by decide +kernel
theorem dX4_settle_0 : decode cX4_settle 0 = .ok (.iload_n 1, 1) := by decide +kernel
theorem dX4_settle_1 : decode cX4_settle 1 = .ok (.ifCond .lt 25, 3) := by decide +kernel
theorem dX4_settle_4 : decode cX4_settle 4 = .ok (.aload_n 0, 1) := by decide +kernel
theorem dX4_settle_5 : decode cX4_settle 5 = .ok (.getfield 29, 3) := by decide +kernel
theorem dX4_settle_8 : decode cX4_settle 8 = .ok (.aload_n 0, 1) := by decide +kernel
theorem dX4_settle_9 : decode cX4_settle 9 = .ok (.getfield 10, 3) := by decide +kernel
theorem dX4_settle_12 : decode cX4_settle 12 = .ok (.invokevirtual 183, 3) := by decide +kernel
theorem dX4_settle_15 : decode cX4_settle 15 = .ok (.aload_n 0, 1) := by decide +kernel
theorem dX4_settle_16 : decode cX4_settle 16 = .ok (.getfield 10, 3) := by decide +kernel
theorem dX4_settle_19 : decode cX4_settle 19 = .ok (.aload_n 0, 1) := by decide +kernel
theorem dX4_settle_20 : decode cX4_settle 20 = .ok (.getfield 16, 3) := by decide +kernel
theorem dX4_settle_23 : decode cX4_settle 23 = .ok (.invokevirtual 47, 3) := by decide +kernel
theorem dX4_settle_26 : decode cX4_settle 26 = .ok (.iload_n 1, 1) := by decide +kernel
theorem dX4_settle_27 : decode cX4_settle 27 = .ok (.ireturn, 1) := by decide +kernel
theorem dX4_passInWork_0 : decode cX4_passInWork 0 = .ok (.iload_n 1, 1) := by decide +kernel
theorem dX4_passInWork_1 : decode cX4_passInWork 1 = .ok (.iconst 1, 1) := by decide +kernel
theorem dX4_passInWork_2 : decode cX4_passInWork 2 = .ok (.if_icmp .lt 9, 3) := by decide +kernel
theorem dX4_passInWork_5 : decode cX4_passInWork 5 = .ok (.iload_n 1, 1) := by decide +kernel
theorem dX4_passInWork_6 : decode cX4_passInWork 6 = .ok (.bipush 99, 2) := by decide +kernel
theorem dX4_passInWork_8 : decode cX4_passInWork 8 = .ok (.if_icmp .le 6, 3) := by decide +kernel
theorem dX4_passInWork_11 : decode cX4_passInWork 11 = .ok (.bipush (-2), 2) := by decide +kernel
theorem dX4_passInWork_13 : decode cX4_passInWork 13 = .ok (.ireturn, 1) := by decide +kernel
theorem dX4_passInWork_14 : decode cX4_passInWork 14 = .ok (.aload_n 0, 1) := by decide +kernel
theorem dX4_passInWork_15 : decode cX4_passInWork 15 = .ok (.getfield 16, 3) := by decide +kernel
theorem dX4_passInWork_18 : decode cX4_passInWork 18 = .ok (.getfield 142, 3) := by decide +kernel
theorem dX4_passInWork_21 : decode cX4_passInWork 21 = .ok (.bipush 17, 2) := by decide +kernel
theorem dX4_passInWork_23 : decode cX4_passInWork 23 = .ok (.invokestatic 108, 3) := by decide +kernel
theorem dX4_passInWork_26 : decode cX4_passInWork 26 = .ok (.iload_n 1, 1) := by decide +kernel
theorem dX4_passInWork_27 : decode cX4_passInWork 27 = .ok (.iadd, 1) := by decide +kernel
theorem dX4_passInWork_28 : decode cX4_passInWork 28 = .ok (.sipush 5000, 3) := by decide +kernel
theorem dX4_passInWork_31 : decode cX4_passInWork 31 = .ok (.if_icmp .le 6, 3) := by decide +kernel
theorem dX4_passInWork_34 : decode cX4_passInWork 34 = .ok (.bipush (-3), 2) := by decide +kernel
theorem dX4_passInWork_36 : decode cX4_passInWork 36 = .ok (.ireturn, 1) := by decide +kernel
theorem dX4_passInWork_37 : decode cX4_passInWork 37 = .ok (.aload_n 0, 1) := by decide +kernel
theorem dX4_passInWork_38 : decode cX4_passInWork 38 = .ok (.getfield 36, 3) := by decide +kernel
theorem dX4_passInWork_41 : decode cX4_passInWork 41 = .ok (.aload_n 0, 1) := by decide +kernel
theorem dX4_passInWork_42 : decode cX4_passInWork 42 = .ok (.getfield 16, 3) := by decide +kernel
theorem dX4_passInWork_45 : decode cX4_passInWork 45 = .ok (.iload_n 1, 1) := by decide +kernel
theorem dX4_passInWork_46 : decode cX4_passInWork 46 = .ok (.invokevirtual 166, 3) := by decide +kernel
theorem dX4_passInWork_49 : decode cX4_passInWork 49 = .ok (.ireturn, 1) := by decide +kernel
theorem dX4_whyItStays_0 : decode cX4_whyItStays 0 = .ok (.aload_n 0, 1) := by decide +kernel
theorem dX4_whyItStays_1 : decode cX4_whyItStays 1 = .ok (.getfield 16, 3) := by decide +kernel
theorem dX4_whyItStays_4 : decode cX4_whyItStays 4 = .ok (.aload_n 0, 1) := by decide +kernel
theorem dX4_whyItStays_5 : decode cX4_whyItStays 5 = .ok (.getfield 10, 3) := by decide +kernel
theorem dX4_whyItStays_8 : decode cX4_whyItStays 8 = .ok (.invokevirtual 47, 3) := by decide +kernel
theorem dX4_whyItStays_11 : decode cX4_whyItStays 11 = .ok (.aload_n 0, 1) := by decide +kernel
theorem dX4_whyItStays_12 : decode cX4_whyItStays 12 = .ok (.getfield 36, 3) := by decide +kernel
theorem dX4_whyItStays_15 : decode cX4_whyItStays 15 = .ok (.aload_n 0, 1) := by decide +kernel
theorem dX4_whyItStays_16 : decode cX4_whyItStays 16 = .ok (.getfield 16, 3) := by decide +kernel
theorem dX4_whyItStays_19 : decode cX4_whyItStays 19 = .ok (.iconst 1, 1) := by decide +kernel
theorem dX4_whyItStays_20 : decode cX4_whyItStays 20 = .ok (.invokevirtual 166, 3) := by decide +kernel
theorem dX4_whyItStays_23 : decode cX4_whyItStays 23 = .ok (.pop, 1) := by decide +kernel
theorem dX4_whyItStays_24 : decode cX4_whyItStays 24 = .ok (.aload_n 0, 1) := by decide +kernel
theorem dX4_whyItStays_25 : decode cX4_whyItStays 25 = .ok (.getfield 36, 3) := by decide +kernel
theorem dX4_whyItStays_28 : decode cX4_whyItStays 28 = .ok (.getfield 198, 3) := by decide +kernel
theorem dX4_whyItStays_31 : decode cX4_whyItStays 31 = .ok (.iload_n 1, 1) := by decide +kernel
theorem dX4_whyItStays_32 : decode cX4_whyItStays 32 = .ok (.invokestatic 108, 3) := by decide +kernel
theorem dX4_whyItStays_35 : decode cX4_whyItStays 35 = .ok (.ireturn, 1) := by decide +kernel
theorem dX4_paidForNightsInWork_0 : decode cX4_paidForNightsInWork 0 = .ok (.aload_n 0, 1) := by decide +kernel
theorem dX4_paidForNightsInWork_1 : decode cX4_paidForNightsInWork 1 = .ok (.getfield 16, 3) := by decide +kernel
theorem dX4_paidForNightsInWork_4 : decode cX4_paidForNightsInWork 4 = .ok (.getfield 142, 3) := by decide +kernel
theorem dX4_paidForNightsInWork_7 : decode cX4_paidForNightsInWork 7 = .ok (.bipush 18, 2) := by decide +kernel
theorem dX4_paidForNightsInWork_9 : decode cX4_paidForNightsInWork 9 = .ok (.invokestatic 108, 3) := by decide +kernel
theorem dX4_paidForNightsInWork_12 : decode cX4_paidForNightsInWork 12 = .ok (.aload_n 0, 1) := by decide +kernel
theorem dX4_paidForNightsInWork_13 : decode cX4_paidForNightsInWork 13 = .ok (.getfield 10, 3) := by decide +kernel
theorem dX4_paidForNightsInWork_16 : decode cX4_paidForNightsInWork 16 = .ok (.getfield 142, 3) := by decide +kernel
theorem dX4_paidForNightsInWork_19 : decode cX4_paidForNightsInWork 19 = .ok (.bipush 18, 2) := by decide +kernel
theorem dX4_paidForNightsInWork_21 : decode cX4_paidForNightsInWork 21 = .ok (.invokestatic 108, 3) := by decide +kernel
theorem dX4_paidForNightsInWork_24 : decode cX4_paidForNightsInWork 24 = .ok (.isub, 1) := by decide +kernel
theorem dX4_paidForNightsInWork_25 : decode cX4_paidForNightsInWork 25 = .ok (.ireturn, 1) := by decide +kernel
theorem dX4_paidWithHot_0 : decode cX4_paidWithHot 0 = .ok (.aload_n 0, 1) := by decide +kernel
theorem dX4_paidWithHot_1 : decode cX4_paidWithHot 1 = .ok (.getfield 16, 3) := by decide +kernel
theorem dX4_paidWithHot_4 : decode cX4_paidWithHot 4 = .ok (.aload_n 0, 1) := by decide +kernel
theorem dX4_paidWithHot_5 : decode cX4_paidWithHot 5 = .ok (.getfield 10, 3) := by decide +kernel
theorem dX4_paidWithHot_8 : decode cX4_paidWithHot 8 = .ok (.invokevirtual 47, 3) := by decide +kernel
theorem dX4_paidWithHot_11 : decode cX4_paidWithHot 11 = .ok (.aload_n 0, 1) := by decide +kernel
theorem dX4_paidWithHot_12 : decode cX4_paidWithHot 12 = .ok (.getfield 16, 3) := by decide +kernel
theorem dX4_paidWithHot_15 : decode cX4_paidWithHot 15 = .ok (.getfield 142, 3) := by decide +kernel
theorem dX4_paidWithHot_18 : decode cX4_paidWithHot 18 = .ok (.iconst 1, 1) := by decide +kernel
theorem dX4_paidWithHot_19 : decode cX4_paidWithHot 19 = .ok (.iload_n 1, 1) := by decide +kernel
theorem dX4_paidWithHot_20 : decode cX4_paidWithHot 20 = .ok (.invokestatic 201, 3) := by decide +kernel
theorem dX4_paidWithHot_23 : decode cX4_paidWithHot 23 = .ok (.aload_n 0, 1) := by decide +kernel
theorem dX4_paidWithHot_24 : decode cX4_paidWithHot 24 = .ok (.getfield 36, 3) := by decide +kernel
theorem dX4_paidWithHot_27 : decode cX4_paidWithHot 27 = .ok (.aload_n 0, 1) := by decide +kernel
theorem dX4_paidWithHot_28 : decode cX4_paidWithHot 28 = .ok (.getfield 16, 3) := by decide +kernel
theorem dX4_paidWithHot_31 : decode cX4_paidWithHot 31 = .ok (.iload_n 2, 1) := by decide +kernel
theorem dX4_paidWithHot_32 : decode cX4_paidWithHot 32 = .ok (.invokevirtual 166, 3) := by decide +kernel
theorem dX4_paidWithHot_35 : decode cX4_paidWithHot 35 = .ok (.pop, 1) := by decide +kernel
theorem dX4_paidWithHot_36 : decode cX4_paidWithHot 36 = .ok (.aload_n 0, 1) := by decide +kernel
theorem dX4_paidWithHot_37 : decode cX4_paidWithHot 37 = .ok (.invokevirtual 170, 3) := by decide +kernel
theorem dX4_paidWithHot_40 : decode cX4_paidWithHot 40 = .ok (.ireturn, 1) := by decide +kernel
theorem dX4_at_0 : decode cX4_at 0 = .ok (.iload_n 1, 1) := by decide +kernel
theorem dX4_at_1 : decode cX4_at 1 = .ok (.ifCond .lt 15, 3) := by decide +kernel
theorem dX4_at_4 : decode cX4_at 4 = .ok (.iload_n 1, 1) := by decide +kernel
theorem dX4_at_5 : decode cX4_at 5 = .ok (.aload_n 0, 1) := by decide +kernel
theorem dX4_at_6 : decode cX4_at 6 = .ok (.arraylength, 1) := by decide +kernel
theorem dX4_at_7 : decode cX4_at 7 = .ok (.if_icmp .ge 9, 3) := by decide +kernel
theorem dX4_at_10 : decode cX4_at 10 = .ok (.aload_n 0, 1) := by decide +kernel
theorem dX4_at_11 : decode cX4_at 11 = .ok (.iload_n 1, 1) := by decide +kernel
theorem dX4_at_12 : decode cX4_at 12 = .ok (.iaload, 1) := by decide +kernel
theorem dX4_at_13 : decode cX4_at 13 = .ok (.goto 4, 3) := by decide +kernel
theorem dX4_at_16 : decode cX4_at 16 = .ok (.iconst 0, 1) := by decide +kernel
theorem dX4_at_17 : decode cX4_at 17 = .ok (.ireturn, 1) := by decide +kernel
theorem dX4_put_0 : decode cX4_put 0 = .ok (.iload_n 1, 1) := by decide +kernel
theorem dX4_put_1 : decode cX4_put 1 = .ok (.ifCond .lt 13, 3) := by decide +kernel
theorem dX4_put_4 : decode cX4_put 4 = .ok (.iload_n 1, 1) := by decide +kernel
theorem dX4_put_5 : decode cX4_put 5 = .ok (.aload_n 0, 1) := by decide +kernel
theorem dX4_put_6 : decode cX4_put 6 = .ok (.arraylength, 1) := by decide +kernel
theorem dX4_put_7 : decode cX4_put 7 = .ok (.if_icmp .ge 7, 3) := by decide +kernel
theorem dX4_put_10 : decode cX4_put 10 = .ok (.aload_n 0, 1) := by decide +kernel
theorem dX4_put_11 : decode cX4_put 11 = .ok (.iload_n 1, 1) := by decide +kernel
theorem dX4_put_12 : decode cX4_put 12 = .ok (.iload_n 2, 1) := by decide +kernel
theorem dX4_put_13 : decode cX4_put 13 = .ok (.iastore, 1) := by decide +kernel
theorem dX4_put_14 : decode cX4_put 14 = .ok (.return_, 1) := by decide +kernel
theorem dX4_raise_0 : decode cX4_raise 0 = .ok (.iload_n 1, 1) := by decide +kernel
theorem dX4_raise_1 : decode cX4_raise 1 = .ok (.ifCond .lt 16, 3) := by decide +kernel
theorem dX4_raise_4 : decode cX4_raise 4 = .ok (.iload_n 1, 1) := by decide +kernel
theorem dX4_raise_5 : decode cX4_raise 5 = .ok (.aload_n 0, 1) := by decide +kernel
theorem dX4_raise_6 : decode cX4_raise 6 = .ok (.arraylength, 1) := by decide +kernel
theorem dX4_raise_7 : decode cX4_raise 7 = .ok (.if_icmp .ge 10, 3) := by decide +kernel
theorem dX4_raise_10 : decode cX4_raise 10 = .ok (.aload_n 0, 1) := by decide +kernel
theorem dX4_raise_11 : decode cX4_raise 11 = .ok (.iload_n 1, 1) := by decide +kernel
theorem dX4_raise_12 : decode cX4_raise 12 = .ok (.dup2, 1) := by decide +kernel
theorem dX4_raise_13 : decode cX4_raise 13 = .ok (.iaload, 1) := by decide +kernel
theorem dX4_raise_14 : decode cX4_raise 14 = .ok (.iload_n 2, 1) := by decide +kernel
theorem dX4_raise_15 : decode cX4_raise 15 = .ok (.iadd, 1) := by decide +kernel
theorem dX4_raise_16 : decode cX4_raise 16 = .ok (.iastore, 1) := by decide +kernel
theorem dX4_raise_17 : decode cX4_raise 17 = .ok (.return_, 1) := by decide +kernel
theorem dX4_copyRow_0 : decode cX4_copyRow 0 = .ok (.aload_n 0, 1) := by decide +kernel
theorem dX4_copyRow_1 : decode cX4_copyRow 1 = .ok (.iconst 0, 1) := by decide +kernel
theorem dX4_copyRow_2 : decode cX4_copyRow 2 = .ok (.aload_n 1, 1) := by decide +kernel
theorem dX4_copyRow_3 : decode cX4_copyRow 3 = .ok (.iconst 0, 1) := by decide +kernel
theorem dX4_copyRow_4 : decode cX4_copyRow 4 = .ok (.aload_n 0, 1) := by decide +kernel
theorem dX4_copyRow_5 : decode cX4_copyRow 5 = .ok (.arraylength, 1) := by decide +kernel
theorem dX4_copyRow_6 : decode cX4_copyRow 6 = .ok (.aload_n 1, 1) := by decide +kernel
theorem dX4_copyRow_7 : decode cX4_copyRow 7 = .ok (.arraylength, 1) := by decide +kernel
theorem dX4_copyRow_8 : decode cX4_copyRow 8 = .ok (.invokestatic 205, 3) := by decide +kernel
theorem dX4_copyRow_11 : decode cX4_copyRow 11 = .ok (.invokestatic 210, 3) := by decide +kernel
theorem dX4_copyRow_14 : decode cX4_copyRow 14 = .ok (.return_, 1) := by decide +kernel
theorem dX4_closeGap_0 : decode cX4_closeGap 0 = .ok (.iload_n 1, 1) := by decide +kernel
theorem dX4_closeGap_1 : decode cX4_closeGap 1 = .ok (.iconst 0, 1) := by decide +kernel
theorem dX4_closeGap_2 : decode cX4_closeGap 2 = .ok (.invokestatic 216, 3) := by decide +kernel
theorem dX4_closeGap_5 : decode cX4_closeGap 5 = .ok (.istore_n 2, 1) := by decide +kernel
theorem dX4_closeGap_6 : decode cX4_closeGap 6 = .ok (.iload_n 2, 1) := by decide +kernel
theorem dX4_closeGap_7 : decode cX4_closeGap 7 = .ok (.iconst 1, 1) := by decide +kernel
theorem dX4_closeGap_8 : decode cX4_closeGap 8 = .ok (.iadd, 1) := by decide +kernel
theorem dX4_closeGap_9 : decode cX4_closeGap 9 = .ok (.aload_n 0, 1) := by decide +kernel
theorem dX4_closeGap_10 : decode cX4_closeGap 10 = .ok (.arraylength, 1) := by decide +kernel
theorem dX4_closeGap_11 : decode cX4_closeGap 11 = .ok (.if_icmp .ge 17, 3) := by decide +kernel
theorem dX4_closeGap_14 : decode cX4_closeGap 14 = .ok (.aload_n 0, 1) := by decide +kernel
theorem dX4_closeGap_15 : decode cX4_closeGap 15 = .ok (.iload_n 2, 1) := by decide +kernel
theorem dX4_closeGap_16 : decode cX4_closeGap 16 = .ok (.aload_n 0, 1) := by decide +kernel
theorem dX4_closeGap_17 : decode cX4_closeGap 17 = .ok (.iload_n 2, 1) := by decide +kernel
theorem dX4_closeGap_18 : decode cX4_closeGap 18 = .ok (.iconst 1, 1) := by decide +kernel
theorem dX4_closeGap_19 : decode cX4_closeGap 19 = .ok (.iadd, 1) := by decide +kernel
theorem dX4_closeGap_20 : decode cX4_closeGap 20 = .ok (.iaload, 1) := by decide +kernel
theorem dX4_closeGap_21 : decode cX4_closeGap 21 = .ok (.iastore, 1) := by decide +kernel
theorem dX4_closeGap_22 : decode cX4_closeGap 22 = .ok (.iinc 2 1, 3) := by decide +kernel
theorem dX4_closeGap_25 : decode cX4_closeGap 25 = .ok (.goto (-19), 3) := by decide +kernel
theorem dX4_closeGap_28 : decode cX4_closeGap 28 = .ok (.return_, 1) := by decide +kernel
