theorem dX0_init_0 : decode cX0_init 0 = .ok (.aload_n 0, 1) := by decide +kernel
theorem dX0_init_1 : decode cX0_init 1 = .ok (.invokespecial 3, 3) := by decide +kernel
theorem dX0_init_4 : decode cX0_init 4 = .ok (.aload_n 0, 1) := by decide +kernel
theorem dX0_init_5 : decode cX0_init 5 = .ok (.iconst 4, 1) := by decide +kernel
theorem dX0_init_6 : decode cX0_init 6 = .ok (.anewarray 9, 3) := by decide +kernel
theorem dX0_init_9 : decode cX0_init 9 = .ok (.putfield 11, 3) := by decide +kernel
theorem dX0_init_12 : decode cX0_init 12 = .ok (.aload_n 0, 1) := by decide +kernel
theorem dX0_init_13 : decode cX0_init 13 = .ok (.iconst 0, 1) := by decide +kernel
theorem dX0_init_14 : decode cX0_init 14 = .ok (.putfield 17, 3) := by decide +kernel
theorem dX0_init_17 : decode cX0_init 17 = .ok (.aload_n 0, 1) := by decide +kernel
theorem dX0_init_18 : decode cX0_init 18 = .ok (.iconst 0, 1) := by decide +kernel
theorem dX0_init_19 : decode cX0_init 19 = .ok (.putfield 21, 3) := by decide +kernel
theorem dX0_init_22 : decode cX0_init 22 = .ok (.iconst 0, 1) := by decide +kernel
theorem dX0_init_23 : decode cX0_init 23 = .ok (.istore_n 1, 1) := by decide +kernel
theorem dX0_init_24 : decode cX0_init 24 = .ok (.iload_n 1, 1) := by decide +kernel
theorem dX0_init_25 : decode cX0_init 25 = .ok (.aload_n 0, 1) := by decide +kernel
theorem dX0_init_26 : decode cX0_init 26 = .ok (.getfield 11, 3) := by decide +kernel
theorem dX0_init_29 : decode cX0_init 29 = .ok (.arraylength, 1) := by decide +kernel
theorem dX0_init_30 : decode cX0_init 30 = .ok (.if_icmp .ge 22, 3) := by decide +kernel
theorem dX0_init_33 : decode cX0_init 33 = .ok (.aload_n 0, 1) := by decide +kernel
theorem dX0_init_34 : decode cX0_init 34 = .ok (.getfield 11, 3) := by decide +kernel
theorem dX0_init_37 : decode cX0_init 37 = .ok (.iload_n 1, 1) := by decide +kernel
theorem dX0_init_38 : decode cX0_init 38 = .ok (.new 9, 3) := by decide +kernel
theorem dX0_init_41 : decode cX0_init 41 = .ok (.dup, 1) := by decide +kernel
theorem dX0_init_42 : decode cX0_init 42 = .ok (.invokespecial 24, 3) := by decide +kernel
theorem dX0_init_45 : decode cX0_init 45 = .ok (.aastore, 1) := by decide +kernel
theorem dX0_init_46 : decode cX0_init 46 = .ok (.iinc 1 1, 3) := by decide +kernel
theorem dX0_init_49 : decode cX0_init 49 = .ok (.goto (-25), 3) := by decide +kernel
theorem dX0_init_52 : decode cX0_init 52 = .ok (.return_, 1) := by decide +kernel
theorem dX0_stateAt_0 : decode cX0_stateAt 0 = .ok (.aload_n 0, 1) := by decide +kernel
theorem dX0_stateAt_1 : decode cX0_stateAt 1 = .ok (.getfield 17, 3) := by decide +kernel
theorem dX0_stateAt_4 : decode cX0_stateAt 4 = .ok (.iload_n 1, 1) := by decide +kernel
theorem dX0_stateAt_5 : decode cX0_stateAt 5 = .ok (.iadd, 1) := by decide +kernel
theorem dX0_stateAt_6 : decode cX0_stateAt 6 = .ok (.iconst 4, 1) := by decide +kernel
theorem dX0_stateAt_7 : decode cX0_stateAt 7 = .ok (.irem, 1) := by decide +kernel
theorem dX0_stateAt_8 : decode cX0_stateAt 8 = .ok (.istore_n 2, 1) := by decide +kernel
theorem dX0_stateAt_9 : decode cX0_stateAt 9 = .ok (.iload_n 2, 1) := by decide +kernel
theorem dX0_stateAt_10 : decode cX0_stateAt 10 = .ok (.ifCond .lt 21, 3) := by decide +kernel
theorem dX0_stateAt_13 : decode cX0_stateAt 13 = .ok (.iload_n 2, 1) := by decide +kernel
theorem dX0_stateAt_14 : decode cX0_stateAt 14 = .ok (.aload_n 0, 1) := by decide +kernel
theorem dX0_stateAt_15 : decode cX0_stateAt 15 = .ok (.getfield 11, 3) := by decide +kernel
theorem dX0_stateAt_18 : decode cX0_stateAt 18 = .ok (.arraylength, 1) := by decide +kernel
theorem dX0_stateAt_19 : decode cX0_stateAt 19 = .ok (.if_icmp .ge 12, 3) := by decide +kernel
theorem dX0_stateAt_22 : decode cX0_stateAt 22 = .ok (.aload_n 0, 1) := by decide +kernel
theorem dX0_stateAt_23 : decode cX0_stateAt 23 = .ok (.getfield 11, 3) := by decide +kernel
theorem dX0_stateAt_26 : decode cX0_stateAt 26 = .ok (.iload_n 2, 1) := by decide +kernel
theorem dX0_stateAt_27 : decode cX0_stateAt 27 = .ok (.aaload, 1) := by decide +kernel
theorem dX0_stateAt_28 : decode cX0_stateAt 28 = .ok (.goto 4, 3) := by decide +kernel
theorem dX0_stateAt_31 : decode cX0_stateAt 31 = .ok (.aconst_null, 1) := by decide +kernel
theorem dX0_stateAt_32 : decode cX0_stateAt 32 = .ok (.areturn, 1) := by decide +kernel
theorem dX0_record_0 : decode cX0_record 0 = .ok (.aload_n 0, 1) := by decide +kernel
theorem dX0_record_1 : decode cX0_record 1 = .ok (.getfield 21, 3) := by decide +kernel
theorem dX0_record_4 : decode cX0_record 4 = .ok (.iconst 4, 1) := by decide +kernel
theorem dX0_record_5 : decode cX0_record 5 = .ok (.if_icmp .lt 25, 3) := by decide +kernel
theorem dX0_record_8 : decode cX0_record 8 = .ok (.aload_n 0, 1) := by decide +kernel
theorem dX0_record_9 : decode cX0_record 9 = .ok (.aload_n 0, 1) := by decide +kernel
theorem dX0_record_10 : decode cX0_record 10 = .ok (.getfield 17, 3) := by decide +kernel
theorem dX0_record_13 : decode cX0_record 13 = .ok (.iconst 1, 1) := by decide +kernel
theorem dX0_record_14 : decode cX0_record 14 = .ok (.iadd, 1) := by decide +kernel
theorem dX0_record_15 : decode cX0_record 15 = .ok (.iconst 4, 1) := by decide +kernel
theorem dX0_record_16 : decode cX0_record 16 = .ok (.irem, 1) := by decide +kernel
theorem dX0_record_17 : decode cX0_record 17 = .ok (.putfield 17, 3) := by decide +kernel
theorem dX0_record_20 : decode cX0_record 20 = .ok (.aload_n 0, 1) := by decide +kernel
theorem dX0_record_21 : decode cX0_record 21 = .ok (.dup, 1) := by decide +kernel
theorem dX0_record_22 : decode cX0_record 22 = .ok (.getfield 21, 3) := by decide +kernel
theorem dX0_record_25 : decode cX0_record 25 = .ok (.iconst 1, 1) := by decide +kernel
theorem dX0_record_26 : decode cX0_record 26 = .ok (.isub, 1) := by decide +kernel
theorem dX0_record_27 : decode cX0_record 27 = .ok (.putfield 21, 3) := by decide +kernel
theorem dX0_record_30 : decode cX0_record 30 = .ok (.aload_n 0, 1) := by decide +kernel
theorem dX0_record_31 : decode cX0_record 31 = .ok (.aload_n 0, 1) := by decide +kernel
theorem dX0_record_32 : decode cX0_record 32 = .ok (.getfield 21, 3) := by decide +kernel
theorem dX0_record_35 : decode cX0_record 35 = .ok (.invokevirtual 25, 3) := by decide +kernel
theorem dX0_record_38 : decode cX0_record 38 = .ok (.astore_n 2, 1) := by decide +kernel
theorem dX0_record_39 : decode cX0_record 39 = .ok (.aload_n 2, 1) := by decide +kernel
theorem dX0_record_40 : decode cX0_record 40 = .ok (.ifnull 18, 3) := by decide +kernel
theorem dX0_record_43 : decode cX0_record 43 = .ok (.aload_n 2, 1) := by decide +kernel
theorem dX0_record_44 : decode cX0_record 44 = .ok (.aload_n 1, 1) := by decide +kernel
theorem dX0_record_45 : decode cX0_record 45 = .ok (.invokevirtual 29, 3) := by decide +kernel
theorem dX0_record_48 : decode cX0_record 48 = .ok (.aload_n 0, 1) := by decide +kernel
theorem dX0_record_49 : decode cX0_record 49 = .ok (.dup, 1) := by decide +kernel
theorem dX0_record_50 : decode cX0_record 50 = .ok (.getfield 21, 3) := by decide +kernel
theorem dX0_record_53 : decode cX0_record 53 = .ok (.iconst 1, 1) := by decide +kernel
theorem dX0_record_54 : decode cX0_record 54 = .ok (.iadd, 1) := by decide +kernel
theorem dX0_record_55 : decode cX0_record 55 = .ok (.putfield 21, 3) := by decide +kernel
theorem dX0_record_58 : decode cX0_record 58 = .ok (.return_, 1) := by decide +kernel
theorem dX0_takeLatest_0 : decode cX0_takeLatest 0 = .ok (.aload_n 0, 1) := by decide +kernel
theorem dX0_takeLatest_1 : decode cX0_takeLatest 1 = .ok (.getfield 21, 3) := by decide +kernel
theorem dX0_takeLatest_4 : decode cX0_takeLatest 4 = .ok (.ifCond .gt 5, 3) := by decide +kernel
theorem dX0_takeLatest_7 : decode cX0_takeLatest 7 = .ok (.iconst 0, 1) := by decide +kernel
theorem dX0_takeLatest_8 : decode cX0_takeLatest 8 = .ok (.ireturn, 1) := by decide +kernel
theorem dX0_takeLatest_9 : decode cX0_takeLatest 9 = .ok (.aload_n 0, 1) := by decide +kernel
theorem dX0_takeLatest_10 : decode cX0_takeLatest 10 = .ok (.aload_n 0, 1) := by decide +kernel
theorem dX0_takeLatest_11 : decode cX0_takeLatest 11 = .ok (.getfield 21, 3) := by decide +kernel
theorem dX0_takeLatest_14 : decode cX0_takeLatest 14 = .ok (.iconst 1, 1) := by decide +kernel
theorem dX0_takeLatest_15 : decode cX0_takeLatest 15 = .ok (.isub, 1) := by decide +kernel
theorem dX0_takeLatest_16 : decode cX0_takeLatest 16 = .ok (.invokevirtual 25, 3) := by decide +kernel
theorem dX0_takeLatest_19 : decode cX0_takeLatest 19 = .ok (.astore_n 2, 1) := by decide +kernel
theorem dX0_takeLatest_20 : decode cX0_takeLatest 20 = .ok (.aload_n 2, 1) := by decide +kernel
theorem dX0_takeLatest_21 : decode cX0_takeLatest 21 = .ok (.ifnonnull 5, 3) := by decide +kernel
theorem dX0_takeLatest_24 : decode cX0_takeLatest 24 = .ok (.iconst 0, 1) := by decide +kernel
theorem dX0_takeLatest_25 : decode cX0_takeLatest 25 = .ok (.ireturn, 1) := by decide +kernel
theorem dX0_takeLatest_26 : decode cX0_takeLatest 26 = .ok (.aload_n 1, 1) := by decide +kernel
theorem dX0_takeLatest_27 : decode cX0_takeLatest 27 = .ok (.aload_n 2, 1) := by decide +kernel
theorem dX0_takeLatest_28 : decode cX0_takeLatest 28 = .ok (.invokevirtual 29, 3) := by decide +kernel
theorem dX0_takeLatest_31 : decode cX0_takeLatest 31 = .ok (.aload_n 0, 1) := by decide +kernel
theorem dX0_takeLatest_32 : decode cX0_takeLatest 32 = .ok (.dup, 1) := by decide +kernel
theorem dX0_takeLatest_33 : decode cX0_takeLatest 33 = .ok (.getfield 21, 3) := by decide +kernel
theorem dX0_takeLatest_36 : decode cX0_takeLatest 36 = .ok (.iconst 1, 1) := by decide +kernel
theorem dX0_takeLatest_37 : decode cX0_takeLatest 37 = .ok (.isub, 1) := by decide +kernel
theorem dX0_takeLatest_38 : decode cX0_takeLatest 38 = .ok (.putfield 21, 3) := by decide +kernel
theorem dX0_takeLatest_41 : decode cX0_takeLatest 41 = .ok (.iconst 1, 1) := by decide +kernel
theorem dX0_takeLatest_42 : decode cX0_takeLatest 42 = .ok (.ireturn, 1) := by decide +kernel
theorem dX1_init_0 : decode cX1_init 0 = .ok (.aload_n 0, 1) := by decide +kernel
theorem dX1_init_1 : decode cX1_init 1 = .ok (.invokespecial 3, 3) := by decide +kernel
theorem dX1_init_4 : decode cX1_init 4 = .ok (.aload_n 0, 1) := by decide +kernel
theorem dX1_init_5 : decode cX1_init 5 = .ok (.bipush 24, 2) := by decide +kernel
theorem dX1_init_7 : decode cX1_init 7 = .ok (.newarray .int, 2) := by decide +kernel
theorem dX1_init_9 : decode cX1_init 9 = .ok (.putfield 9, 3) := by decide +kernel
theorem dX1_init_12 : decode cX1_init 12 = .ok (.aload_n 0, 1) := by decide +kernel
theorem dX1_init_13 : decode cX1_init 13 = .ok (.bipush 24, 2) := by decide +kernel
theorem dX1_init_15 : decode cX1_init 15 = .ok (.newarray .int, 2) := by decide +kernel
theorem dX1_init_17 : decode cX1_init 17 = .ok (.putfield 15, 3) := by decide +kernel
theorem dX1_init_20 : decode cX1_init 20 = .ok (.return_, 1) := by decide +kernel
theorem dX1_letPass_0 : decode cX1_letPass 0 = .ok (.aload_n 1, 1) := by decide +kernel
theorem dX1_letPass_1 : decode cX1_letPass 1 = .ok (.getfield 18, 3) := by decide +kernel
theorem dX1_letPass_4 : decode cX1_letPass 4 = .ok (.iconst 3, 1) := by decide +kernel
theorem dX1_letPass_5 : decode cX1_letPass 5 = .ok (.invokestatic 23, 3) := by decide +kernel
theorem dX1_letPass_8 : decode cX1_letPass 8 = .ok (.istore_n 3, 1) := by decide +kernel
theorem dX1_letPass_9 : decode cX1_letPass 9 = .ok (.iconst 0, 1) := by decide +kernel
theorem dX1_letPass_10 : decode cX1_letPass 10 = .ok (.istore 4, 2) := by decide +kernel
theorem dX1_letPass_12 : decode cX1_letPass 12 = .ok (.iconst 0, 1) := by decide +kernel
theorem dX1_letPass_13 : decode cX1_letPass 13 = .ok (.istore 5, 2) := by decide +kernel
theorem dX1_letPass_15 : decode cX1_letPass 15 = .ok (.iload 5, 2) := by decide +kernel
theorem dX1_letPass_17 : decode cX1_letPass 17 = .ok (.iload_n 2, 1) := by decide +kernel
theorem dX1_letPass_18 : decode cX1_letPass 18 = .ok (.if_icmp .ge 49, 3) := by decide +kernel
theorem dX1_letPass_21 : decode cX1_letPass 21 = .ok (.aload_n 1, 1) := by decide +kernel
theorem dX1_letPass_22 : decode cX1_letPass 22 = .ok (.invokevirtual 27, 3) := by decide +kernel
theorem dX1_letPass_25 : decode cX1_letPass 25 = .ok (.aload_n 1, 1) := by decide +kernel
theorem dX1_letPass_26 : decode cX1_letPass 26 = .ok (.invokevirtual 30, 3) := by decide +kernel
theorem dX1_letPass_29 : decode cX1_letPass 29 = .ok (.aload_n 0, 1) := by decide +kernel
theorem dX1_letPass_30 : decode cX1_letPass 30 = .ok (.aload_n 1, 1) := by decide +kernel
theorem dX1_letPass_31 : decode cX1_letPass 31 = .ok (.invokevirtual 33, 3) := by decide +kernel
theorem dX1_letPass_34 : decode cX1_letPass 34 = .ok (.aload_n 0, 1) := by decide +kernel
theorem dX1_letPass_35 : decode cX1_letPass 35 = .ok (.aload_n 1, 1) := by decide +kernel
theorem dX1_letPass_36 : decode cX1_letPass 36 = .ok (.iconst 1, 1) := by decide +kernel
theorem dX1_letPass_37 : decode cX1_letPass 37 = .ok (.iload_n 3, 1) := by decide +kernel
theorem dX1_letPass_38 : decode cX1_letPass 38 = .ok (.invokevirtual 37, 3) := by decide +kernel
theorem dX1_letPass_41 : decode cX1_letPass 41 = .ok (.istore 6, 2) := by decide +kernel
theorem dX1_letPass_43 : decode cX1_letPass 43 = .ok (.iload 4, 2) := by decide +kernel
theorem dX1_letPass_45 : decode cX1_letPass 45 = .ok (.iload 6, 2) := by decide +kernel
theorem dX1_letPass_47 : decode cX1_letPass 47 = .ok (.aload_n 0, 1) := by decide +kernel
theorem dX1_letPass_48 : decode cX1_letPass 48 = .ok (.aload_n 1, 1) := by decide +kernel
theorem dX1_letPass_49 : decode cX1_letPass 49 = .ok (.iconst 0, 1) := by decide +kernel
theorem dX1_letPass_50 : decode cX1_letPass 50 = .ok (.iload_n 3, 1) := by decide +kernel
theorem dX1_letPass_51 : decode cX1_letPass 51 = .ok (.iload 6, 2) := by decide +kernel
theorem dX1_letPass_53 : decode cX1_letPass 53 = .ok (.isub, 1) := by decide +kernel
theorem dX1_letPass_54 : decode cX1_letPass 54 = .ok (.invokevirtual 37, 3) := by decide +kernel
theorem dX1_letPass_57 : decode cX1_letPass 57 = .ok (.iadd, 1) := by decide +kernel
theorem dX1_letPass_58 : decode cX1_letPass 58 = .ok (.iadd, 1) := by decide +kernel
theorem dX1_letPass_59 : decode cX1_letPass 59 = .ok (.istore 4, 2) := by decide +kernel
theorem dX1_letPass_61 : decode cX1_letPass 61 = .ok (.iinc 5 1, 3) := by decide +kernel
theorem dX1_letPass_64 : decode cX1_letPass 64 = .ok (.goto (-49), 3) := by decide +kernel
theorem dX1_letPass_67 : decode cX1_letPass 67 = .ok (.aload_n 1, 1) := by decide +kernel
theorem dX1_letPass_68 : decode cX1_letPass 68 = .ok (.getfield 18, 3) := by decide +kernel
theorem dX1_letPass_71 : decode cX1_letPass 71 = .ok (.bipush 21, 2) := by decide +kernel
theorem dX1_letPass_73 : decode cX1_letPass 73 = .ok (.iload 4, 2) := by decide +kernel
theorem dX1_letPass_75 : decode cX1_letPass 75 = .ok (.invokestatic 41, 3) := by decide +kernel
theorem dX1_letPass_78 : decode cX1_letPass 78 = .ok (.iload 4, 2) := by decide +kernel
theorem dX1_letPass_80 : decode cX1_letPass 80 = .ok (.ireturn, 1) := by decide +kernel
theorem dX1_findWhoMayMove_0 : decode cX1_findWhoMayMove 0 = .ok (.aload_n 1, 1) := by decide +kernel
theorem dX1_findWhoMayMove_1 : decode cX1_findWhoMayMove 1 = .ok (.invokevirtual 45, 3) := by decide +kernel
theorem dX1_findWhoMayMove_4 : decode cX1_findWhoMayMove 4 = .ok (.istore_n 2, 1) := by decide +kernel
theorem dX1_findWhoMayMove_5 : decode cX1_findWhoMayMove 5 = .ok (.iconst 0, 1) := by decide +kernel
theorem dX1_findWhoMayMove_6 : decode cX1_findWhoMayMove 6 = .ok (.istore_n 3, 1) := by decide +kernel
theorem dX1_findWhoMayMove_7 : decode cX1_findWhoMayMove 7 = .ok (.iload_n 3, 1) := by decide +kernel
theorem dX1_findWhoMayMove_8 : decode cX1_findWhoMayMove 8 = .ok (.iload_n 2, 1) := by decide +kernel
theorem dX1_findWhoMayMove_9 : decode cX1_findWhoMayMove 9 = .ok (.if_icmp .ge 91, 3) := by decide +kernel
theorem dX1_findWhoMayMove_12 : decode cX1_findWhoMayMove 12 = .ok (.iconst 4, 1) := by decide +kernel
theorem dX1_findWhoMayMove_13 : decode cX1_findWhoMayMove 13 = .ok (.istore 4, 2) := by decide +kernel
theorem dX1_findWhoMayMove_15 : decode cX1_findWhoMayMove 15 = .ok (.aload_n 0, 1) := by decide +kernel
theorem dX1_findWhoMayMove_16 : decode cX1_findWhoMayMove 16 = .ok (.getfield 9, 3) := by decide +kernel
theorem dX1_findWhoMayMove_19 : decode cX1_findWhoMayMove 19 = .ok (.iload_n 3, 1) := by decide +kernel
theorem dX1_findWhoMayMove_20 : decode cX1_findWhoMayMove 20 = .ok (.aload_n 1, 1) := by decide +kernel
theorem dX1_findWhoMayMove_21 : decode cX1_findWhoMayMove 21 = .ok (.iload_n 3, 1) := by decide +kernel
theorem dX1_findWhoMayMove_22 : decode cX1_findWhoMayMove 22 = .ok (.invokevirtual 49, 3) := by decide +kernel
theorem dX1_findWhoMayMove_25 : decode cX1_findWhoMayMove 25 = .ok (.invokestatic 53, 3) := by decide +kernel
theorem dX1_findWhoMayMove_28 : decode cX1_findWhoMayMove 28 = .ok (.aload_n 1, 1) := by decide +kernel
theorem dX1_findWhoMayMove_29 : decode cX1_findWhoMayMove 29 = .ok (.getfield 56, 3) := by decide +kernel
theorem dX1_findWhoMayMove_32 : decode cX1_findWhoMayMove 32 = .ok (.iload_n 3, 1) := by decide +kernel
theorem dX1_findWhoMayMove_33 : decode cX1_findWhoMayMove 33 = .ok (.invokestatic 23, 3) := by decide +kernel
theorem dX1_findWhoMayMove_36 : decode cX1_findWhoMayMove 36 = .ok (.ifCond .eq 9, 3) := by decide +kernel
theorem dX1_findWhoMayMove_39 : decode cX1_findWhoMayMove 39 = .ok (.iconst 1, 1) := by decide +kernel
theorem dX1_findWhoMayMove_40 : decode cX1_findWhoMayMove 40 = .ok (.istore 4, 2) := by decide +kernel
theorem dX1_findWhoMayMove_42 : decode cX1_findWhoMayMove 42 = .ok (.goto 42, 3) := by decide +kernel
theorem dX1_findWhoMayMove_45 : decode cX1_findWhoMayMove 45 = .ok (.aload_n 1, 1) := by decide +kernel
theorem dX1_findWhoMayMove_46 : decode cX1_findWhoMayMove 46 = .ok (.getfield 59, 3) := by decide +kernel
theorem dX1_findWhoMayMove_49 : decode cX1_findWhoMayMove 49 = .ok (.iload_n 3, 1) := by decide +kernel
theorem dX1_findWhoMayMove_50 : decode cX1_findWhoMayMove 50 = .ok (.invokestatic 23, 3) := by decide +kernel
theorem dX1_findWhoMayMove_53 : decode cX1_findWhoMayMove 53 = .ok (.ifCond .le 9, 3) := by decide +kernel
theorem dX1_findWhoMayMove_56 : decode cX1_findWhoMayMove 56 = .ok (.iconst 2, 1) := by decide +kernel
theorem dX1_findWhoMayMove_57 : decode cX1_findWhoMayMove 57 = .ok (.istore 4, 2) := by decide +kernel
theorem dX1_findWhoMayMove_59 : decode cX1_findWhoMayMove 59 = .ok (.goto 25, 3) := by decide +kernel
theorem dX1_findWhoMayMove_62 : decode cX1_findWhoMayMove 62 = .ok (.aload_n 0, 1) := by decide +kernel
theorem dX1_findWhoMayMove_63 : decode cX1_findWhoMayMove 63 = .ok (.getfield 9, 3) := by decide +kernel
theorem dX1_findWhoMayMove_66 : decode cX1_findWhoMayMove 66 = .ok (.iload_n 3, 1) := by decide +kernel
theorem dX1_findWhoMayMove_67 : decode cX1_findWhoMayMove 67 = .ok (.invokestatic 23, 3) := by decide +kernel
theorem dX1_findWhoMayMove_70 : decode cX1_findWhoMayMove 70 = .ok (.aload_n 1, 1) := by decide +kernel
theorem dX1_findWhoMayMove_71 : decode cX1_findWhoMayMove 71 = .ok (.getfield 62, 3) := by decide +kernel
theorem dX1_findWhoMayMove_74 : decode cX1_findWhoMayMove 74 = .ok (.iload_n 3, 1) := by decide +kernel
theorem dX1_findWhoMayMove_75 : decode cX1_findWhoMayMove 75 = .ok (.invokestatic 23, 3) := by decide +kernel
theorem dX1_findWhoMayMove_78 : decode cX1_findWhoMayMove 78 = .ok (.if_icmp .ne 6, 3) := by decide +kernel
theorem dX1_findWhoMayMove_81 : decode cX1_findWhoMayMove 81 = .ok (.iconst 3, 1) := by decide +kernel
theorem dX1_findWhoMayMove_82 : decode cX1_findWhoMayMove 82 = .ok (.istore 4, 2) := by decide +kernel
theorem dX1_findWhoMayMove_84 : decode cX1_findWhoMayMove 84 = .ok (.aload_n 0, 1) := by decide +kernel
theorem dX1_findWhoMayMove_85 : decode cX1_findWhoMayMove 85 = .ok (.getfield 15, 3) := by decide +kernel
theorem dX1_findWhoMayMove_88 : decode cX1_findWhoMayMove 88 = .ok (.iload_n 3, 1) := by decide +kernel
theorem dX1_findWhoMayMove_89 : decode cX1_findWhoMayMove 89 = .ok (.iload 4, 2) := by decide +kernel
theorem dX1_findWhoMayMove_91 : decode cX1_findWhoMayMove 91 = .ok (.invokestatic 53, 3) := by decide +kernel
theorem dX1_findWhoMayMove_94 : decode cX1_findWhoMayMove 94 = .ok (.iinc 3 1, 3) := by decide +kernel
theorem dX1_findWhoMayMove_97 : decode cX1_findWhoMayMove 97 = .ok (.goto (-90), 3) := by decide +kernel
theorem dX1_findWhoMayMove_100 : decode cX1_findWhoMayMove 100 = .ok (.return_, 1) := by decide +kernel
theorem dX1_moveInTurn_0 : decode cX1_moveInTurn 0 = .ok (.iconst 0, 1) := by decide +kernel
theorem dX1_moveInTurn_1 : decode cX1_moveInTurn 1 = .ok (.istore 4, 2) := by decide +kernel
theorem dX1_moveInTurn_3 : decode cX1_moveInTurn 3 = .ok (.iconst 0, 1) := by decide +kernel
theorem dX1_moveInTurn_4 : decode cX1_moveInTurn 4 = .ok (.istore 5, 2) := by decide +kernel
theorem dX1_moveInTurn_6 : decode cX1_moveInTurn 6 = .ok (.iload 5, 2) := by decide +kernel
theorem dX1_moveInTurn_8 : decode cX1_moveInTurn 8 = .ok (.bipush 24, 2) := by decide +kernel
theorem dX1_moveInTurn_10 : decode cX1_moveInTurn 10 = .ok (.if_icmp .ge 88, 3) := by decide +kernel
theorem dX1_moveInTurn_13 : decode cX1_moveInTurn 13 = .ok (.iload 4, 2) := by decide +kernel
theorem dX1_moveInTurn_15 : decode cX1_moveInTurn 15 = .ok (.iload_n 3, 1) := by decide +kernel
theorem dX1_moveInTurn_16 : decode cX1_moveInTurn 16 = .ok (.if_icmp .ge 82, 3) := by decide +kernel
theorem dX1_moveInTurn_19 : decode cX1_moveInTurn 19 = .ok (.aload_n 0, 1) := by decide +kernel
theorem dX1_moveInTurn_20 : decode cX1_moveInTurn 20 = .ok (.aload_n 1, 1) := by decide +kernel
theorem dX1_moveInTurn_21 : decode cX1_moveInTurn 21 = .ok (.iload_n 2, 1) := by decide +kernel
theorem dX1_moveInTurn_22 : decode cX1_moveInTurn 22 = .ok (.invokevirtual 65, 3) := by decide +kernel
theorem dX1_moveInTurn_25 : decode cX1_moveInTurn 25 = .ok (.istore 6, 2) := by decide +kernel
theorem dX1_moveInTurn_27 : decode cX1_moveInTurn 27 = .ok (.iload 6, 2) := by decide +kernel
theorem dX1_moveInTurn_29 : decode cX1_moveInTurn 29 = .ok (.iconst (-1), 1) := by decide +kernel
theorem dX1_moveInTurn_30 : decode cX1_moveInTurn 30 = .ok (.if_icmp .ne 6, 3) := by decide +kernel
theorem dX1_moveInTurn_33 : decode cX1_moveInTurn 33 = .ok (.iload 4, 2) := by decide +kernel
theorem dX1_moveInTurn_35 : decode cX1_moveInTurn 35 = .ok (.ireturn, 1) := by decide +kernel
theorem dX1_moveInTurn_36 : decode cX1_moveInTurn 36 = .ok (.aload_n 0, 1) := by decide +kernel
theorem dX1_moveInTurn_37 : decode cX1_moveInTurn 37 = .ok (.aload_n 1, 1) := by decide +kernel
theorem dX1_moveInTurn_38 : decode cX1_moveInTurn 38 = .ok (.iload 6, 2) := by decide +kernel
theorem dX1_moveInTurn_40 : decode cX1_moveInTurn 40 = .ok (.invokevirtual 69, 3) := by decide +kernel
theorem dX1_moveInTurn_43 : decode cX1_moveInTurn 43 = .ok (.istore 7, 2) := by decide +kernel
theorem dX1_moveInTurn_45 : decode cX1_moveInTurn 45 = .ok (.iload 7, 2) := by decide +kernel
theorem dX1_moveInTurn_47 : decode cX1_moveInTurn 47 = .ok (.iconst (-1), 1) := by decide +kernel
theorem dX1_moveInTurn_48 : decode cX1_moveInTurn 48 = .ok (.if_icmp .ne 16, 3) := by decide +kernel
theorem dX1_moveInTurn_51 : decode cX1_moveInTurn 51 = .ok (.aload_n 0, 1) := by decide +kernel
theorem dX1_moveInTurn_52 : decode cX1_moveInTurn 52 = .ok (.getfield 15, 3) := by decide +kernel
theorem dX1_moveInTurn_55 : decode cX1_moveInTurn 55 = .ok (.iload 6, 2) := by decide +kernel
theorem dX1_moveInTurn_57 : decode cX1_moveInTurn 57 = .ok (.iconst 5, 1) := by decide +kernel
theorem dX1_moveInTurn_58 : decode cX1_moveInTurn 58 = .ok (.invokestatic 53, 3) := by decide +kernel
theorem dX1_moveInTurn_61 : decode cX1_moveInTurn 61 = .ok (.goto 31, 3) := by decide +kernel
theorem dX1_moveInTurn_64 : decode cX1_moveInTurn 64 = .ok (.aload_n 0, 1) := by decide +kernel
theorem dX1_moveInTurn_65 : decode cX1_moveInTurn 65 = .ok (.getfield 15, 3) := by decide +kernel
theorem dX1_moveInTurn_68 : decode cX1_moveInTurn 68 = .ok (.iload 6, 2) := by decide +kernel
theorem dX1_moveInTurn_70 : decode cX1_moveInTurn 70 = .ok (.iconst 0, 1) := by decide +kernel
theorem dX1_moveInTurn_71 : decode cX1_moveInTurn 71 = .ok (.invokestatic 53, 3) := by decide +kernel
theorem dX1_moveInTurn_74 : decode cX1_moveInTurn 74 = .ok (.aload_n 1, 1) := by decide +kernel
theorem dX1_moveInTurn_75 : decode cX1_moveInTurn 75 = .ok (.iload 6, 2) := by decide +kernel
theorem dX1_moveInTurn_77 : decode cX1_moveInTurn 77 = .ok (.iload 7, 2) := by decide +kernel
theorem dX1_moveInTurn_79 : decode cX1_moveInTurn 79 = .ok (.invokevirtual 73, 3) := by decide +kernel
theorem dX1_moveInTurn_82 : decode cX1_moveInTurn 82 = .ok (.aload_n 0, 1) := by decide +kernel
theorem dX1_moveInTurn_83 : decode cX1_moveInTurn 83 = .ok (.aload_n 1, 1) := by decide +kernel
theorem dX1_moveInTurn_84 : decode cX1_moveInTurn 84 = .ok (.iload 6, 2) := by decide +kernel
theorem dX1_moveInTurn_86 : decode cX1_moveInTurn 86 = .ok (.invokevirtual 77, 3) := by decide +kernel
theorem dX1_moveInTurn_89 : decode cX1_moveInTurn 89 = .ok (.iinc 4 1, 3) := by decide +kernel
theorem dX1_moveInTurn_92 : decode cX1_moveInTurn 92 = .ok (.iinc 5 1, 3) := by decide +kernel
theorem dX1_moveInTurn_95 : decode cX1_moveInTurn 95 = .ok (.goto (-89), 3) := by decide +kernel
theorem dX1_moveInTurn_98 : decode cX1_moveInTurn 98 = .ok (.iload 4, 2) := by decide +kernel
theorem dX1_moveInTurn_100 : decode cX1_moveInTurn 100 = .ok (.ireturn, 1) := by decide +kernel
theorem dX1_nextInTurn_0 : decode cX1_nextInTurn 0 = .ok (.aload_n 1, 1) := by decide +kernel
theorem dX1_nextInTurn_1 : decode cX1_nextInTurn 1 = .ok (.getfield 18, 3) := by decide +kernel
theorem dX1_nextInTurn_4 : decode cX1_nextInTurn 4 = .ok (.bipush 15, 2) := by decide +kernel
theorem dX1_nextInTurn_6 : decode cX1_nextInTurn 6 = .ok (.invokestatic 23, 3) := by decide +kernel
theorem dX1_nextInTurn_9 : decode cX1_nextInTurn 9 = .ok (.istore_n 3, 1) := by decide +kernel
theorem dX1_nextInTurn_10 : decode cX1_nextInTurn 10 = .ok (.iconst (-1), 1) := by decide +kernel
theorem dX1_nextInTurn_11 : decode cX1_nextInTurn 11 = .ok (.istore 4, 2) := by decide +kernel
theorem dX1_nextInTurn_13 : decode cX1_nextInTurn 13 = .ok (.iconst 0, 1) := by decide +kernel
theorem dX1_nextInTurn_14 : decode cX1_nextInTurn 14 = .ok (.istore 5, 2) := by decide +kernel
theorem dX1_nextInTurn_16 : decode cX1_nextInTurn 16 = .ok (.iconst 0, 1) := by decide +kernel
theorem dX1_nextInTurn_17 : decode cX1_nextInTurn 17 = .ok (.istore 6, 2) := by decide +kernel
theorem dX1_nextInTurn_19 : decode cX1_nextInTurn 19 = .ok (.iload 6, 2) := by decide +kernel
theorem dX1_nextInTurn_21 : decode cX1_nextInTurn 21 = .ok (.iload_n 3, 1) := by decide +kernel
theorem dX1_nextInTurn_22 : decode cX1_nextInTurn 22 = .ok (.if_icmp .ge 105, 3) := by decide +kernel
theorem dX1_nextInTurn_25 : decode cX1_nextInTurn 25 = .ok (.aload_n 0, 1) := by decide +kernel
theorem dX1_nextInTurn_26 : decode cX1_nextInTurn 26 = .ok (.getfield 9, 3) := by decide +kernel
theorem dX1_nextInTurn_29 : decode cX1_nextInTurn 29 = .ok (.iload 6, 2) := by decide +kernel
theorem dX1_nextInTurn_31 : decode cX1_nextInTurn 31 = .ok (.invokestatic 23, 3) := by decide +kernel
theorem dX1_nextInTurn_34 : decode cX1_nextInTurn 34 = .ok (.aload_n 1, 1) := by decide +kernel
theorem dX1_nextInTurn_35 : decode cX1_nextInTurn 35 = .ok (.getfield 62, 3) := by decide +kernel
theorem dX1_nextInTurn_38 : decode cX1_nextInTurn 38 = .ok (.iload 6, 2) := by decide +kernel
theorem dX1_nextInTurn_40 : decode cX1_nextInTurn 40 = .ok (.invokestatic 23, 3) := by decide +kernel
theorem dX1_nextInTurn_43 : decode cX1_nextInTurn 43 = .ok (.if_icmp .le 7, 3) := by decide +kernel
theorem dX1_nextInTurn_46 : decode cX1_nextInTurn 46 = .ok (.iconst 1, 1) := by decide +kernel
theorem dX1_nextInTurn_47 : decode cX1_nextInTurn 47 = .ok (.goto 4, 3) := by decide +kernel
theorem dX1_nextInTurn_50 : decode cX1_nextInTurn 50 = .ok (.iconst 0, 1) := by decide +kernel
theorem dX1_nextInTurn_51 : decode cX1_nextInTurn 51 = .ok (.istore 7, 2) := by decide +kernel
theorem dX1_nextInTurn_53 : decode cX1_nextInTurn 53 = .ok (.aload_n 0, 1) := by decide +kernel
theorem dX1_nextInTurn_54 : decode cX1_nextInTurn 54 = .ok (.getfield 15, 3) := by decide +kernel
theorem dX1_nextInTurn_57 : decode cX1_nextInTurn 57 = .ok (.iload 6, 2) := by decide +kernel
theorem dX1_nextInTurn_59 : decode cX1_nextInTurn 59 = .ok (.invokestatic 23, 3) := by decide +kernel
theorem dX1_nextInTurn_62 : decode cX1_nextInTurn 62 = .ok (.iconst 4, 1) := by decide +kernel
theorem dX1_nextInTurn_63 : decode cX1_nextInTurn 63 = .ok (.if_icmp .ne 58, 3) := by decide +kernel
theorem dX1_nextInTurn_66 : decode cX1_nextInTurn 66 = .ok (.iload 7, 2) := by decide +kernel
theorem dX1_nextInTurn_68 : decode cX1_nextInTurn 68 = .ok (.iload_n 2, 1) := by decide +kernel
theorem dX1_nextInTurn_69 : decode cX1_nextInTurn 69 = .ok (.if_icmp .ne 52, 3) := by decide +kernel
theorem dX1_nextInTurn_72 : decode cX1_nextInTurn 72 = .ok (.iload_n 2, 1) := by decide +kernel
theorem dX1_nextInTurn_73 : decode cX1_nextInTurn 73 = .ok (.ifCond .eq 15, 3) := by decide +kernel
theorem dX1_nextInTurn_76 : decode cX1_nextInTurn 76 = .ok (.aload_n 1, 1) := by decide +kernel
theorem dX1_nextInTurn_77 : decode cX1_nextInTurn 77 = .ok (.getfield 81, 3) := by decide +kernel
theorem dX1_nextInTurn_80 : decode cX1_nextInTurn 80 = .ok (.iload 6, 2) := by decide +kernel
theorem dX1_nextInTurn_82 : decode cX1_nextInTurn 82 = .ok (.invokestatic 23, 3) := by decide +kernel
theorem dX1_nextInTurn_85 : decode cX1_nextInTurn 85 = .ok (.goto 13, 3) := by decide +kernel
theorem dX1_nextInTurn_88 : decode cX1_nextInTurn 88 = .ok (.aload_n 1, 1) := by decide +kernel
theorem dX1_nextInTurn_89 : decode cX1_nextInTurn 89 = .ok (.getfield 81, 3) := by decide +kernel
theorem dX1_nextInTurn_92 : decode cX1_nextInTurn 92 = .ok (.iload 6, 2) := by decide +kernel
theorem dX1_nextInTurn_94 : decode cX1_nextInTurn 94 = .ok (.invokestatic 23, 3) := by decide +kernel
theorem dX1_nextInTurn_97 : decode cX1_nextInTurn 97 = .ok (.ineg, 1) := by decide +kernel
theorem dX1_nextInTurn_98 : decode cX1_nextInTurn 98 = .ok (.istore 8, 2) := by decide +kernel
theorem dX1_nextInTurn_100 : decode cX1_nextInTurn 100 = .ok (.iload 4, 2) := by decide +kernel
theorem dX1_nextInTurn_102 : decode cX1_nextInTurn 102 = .ok (.iconst (-1), 1) := by decide +kernel
theorem dX1_nextInTurn_103 : decode cX1_nextInTurn 103 = .ok (.if_icmp .eq 10, 3) := by decide +kernel
theorem dX1_nextInTurn_106 : decode cX1_nextInTurn 106 = .ok (.iload 8, 2) := by decide +kernel
theorem dX1_nextInTurn_108 : decode cX1_nextInTurn 108 = .ok (.iload 5, 2) := by decide +kernel
theorem dX1_nextInTurn_110 : decode cX1_nextInTurn 110 = .ok (.if_icmp .ge 11, 3) := by decide +kernel
theorem dX1_nextInTurn_113 : decode cX1_nextInTurn 113 = .ok (.iload 6, 2) := by decide +kernel
theorem dX1_nextInTurn_115 : decode cX1_nextInTurn 115 = .ok (.istore 4, 2) := by decide +kernel
theorem dX1_nextInTurn_117 : decode cX1_nextInTurn 117 = .ok (.iload 8, 2) := by decide +kernel
theorem dX1_nextInTurn_119 : decode cX1_nextInTurn 119 = .ok (.istore 5, 2) := by decide +kernel
theorem dX1_nextInTurn_121 : decode cX1_nextInTurn 121 = .ok (.iinc 6 1, 3) := by decide +kernel
theorem dX1_nextInTurn_124 : decode cX1_nextInTurn 124 = .ok (.goto (-105), 3) := by decide +kernel
theorem dX1_nextInTurn_127 : decode cX1_nextInTurn 127 = .ok (.iload 4, 2) := by decide +kernel
theorem dX1_nextInTurn_129 : decode cX1_nextInTurn 129 = .ok (.ireturn, 1) := by decide +kernel
theorem dX1_shelfToMoveTo_0 : decode cX1_shelfToMoveTo 0 = .ok (.aload_n 1, 1) := by decide +kernel
theorem dX1_shelfToMoveTo_1 : decode cX1_shelfToMoveTo 1 = .ok (.getfield 84, 3) := by decide +kernel
theorem dX1_shelfToMoveTo_4 : decode cX1_shelfToMoveTo 4 = .ok (.iload_n 2, 1) := by decide +kernel
theorem dX1_shelfToMoveTo_5 : decode cX1_shelfToMoveTo 5 = .ok (.invokestatic 23, 3) := by decide +kernel
theorem dX1_shelfToMoveTo_8 : decode cX1_shelfToMoveTo 8 = .ok (.istore_n 3, 1) := by decide +kernel
theorem dX1_shelfToMoveTo_9 : decode cX1_shelfToMoveTo 9 = .ok (.aload_n 0, 1) := by decide +kernel
theorem dX1_shelfToMoveTo_10 : decode cX1_shelfToMoveTo 10 = .ok (.getfield 9, 3) := by decide +kernel
theorem dX1_shelfToMoveTo_13 : decode cX1_shelfToMoveTo 13 = .ok (.iload_n 2, 1) := by decide +kernel
theorem dX1_shelfToMoveTo_14 : decode cX1_shelfToMoveTo 14 = .ok (.invokestatic 23, 3) := by decide +kernel
theorem dX1_shelfToMoveTo_17 : decode cX1_shelfToMoveTo 17 = .ok (.istore 4, 2) := by decide +kernel
theorem dX1_shelfToMoveTo_19 : decode cX1_shelfToMoveTo 19 = .ok (.aload_n 1, 1) := by decide +kernel
theorem dX1_shelfToMoveTo_20 : decode cX1_shelfToMoveTo 20 = .ok (.iload 4, 2) := by decide +kernel
theorem dX1_shelfToMoveTo_22 : decode cX1_shelfToMoveTo 22 = .ok (.iload_n 3, 1) := by decide +kernel
theorem dX1_shelfToMoveTo_23 : decode cX1_shelfToMoveTo 23 = .ok (.invokevirtual 87, 3) := by decide +kernel
theorem dX1_shelfToMoveTo_26 : decode cX1_shelfToMoveTo 26 = .ok (.ifCond .eq 6, 3) := by decide +kernel
theorem dX1_shelfToMoveTo_29 : decode cX1_shelfToMoveTo 29 = .ok (.iload 4, 2) := by decide +kernel
theorem dX1_shelfToMoveTo_31 : decode cX1_shelfToMoveTo 31 = .ok (.ireturn, 1) := by decide +kernel
theorem dX1_shelfToMoveTo_32 : decode cX1_shelfToMoveTo 32 = .ok (.iload 4, 2) := by decide +kernel
theorem dX1_shelfToMoveTo_34 : decode cX1_shelfToMoveTo 34 = .ok (.aload_n 1, 1) := by decide +kernel
theorem dX1_shelfToMoveTo_35 : decode cX1_shelfToMoveTo 35 = .ok (.getfield 62, 3) := by decide +kernel
theorem dX1_shelfToMoveTo_38 : decode cX1_shelfToMoveTo 38 = .ok (.iload_n 2, 1) := by decide +kernel
theorem dX1_shelfToMoveTo_39 : decode cX1_shelfToMoveTo 39 = .ok (.invokestatic 23, 3) := by decide +kernel
theorem dX1_shelfToMoveTo_42 : decode cX1_shelfToMoveTo 42 = .ok (.isub, 1) := by decide +kernel
theorem dX1_shelfToMoveTo_43 : decode cX1_shelfToMoveTo 43 = .ok (.invokestatic 91, 3) := by decide +kernel
theorem dX1_shelfToMoveTo_46 : decode cX1_shelfToMoveTo 46 = .ok (.iconst 2, 1) := by decide +kernel
theorem dX1_shelfToMoveTo_47 : decode cX1_shelfToMoveTo 47 = .ok (.if_icmp .ne 7, 3) := by decide +kernel
theorem dX1_shelfToMoveTo_50 : decode cX1_shelfToMoveTo 50 = .ok (.iconst 1, 1) := by decide +kernel
theorem dX1_shelfToMoveTo_51 : decode cX1_shelfToMoveTo 51 = .ok (.goto 4, 3) := by decide +kernel
theorem dX1_shelfToMoveTo_54 : decode cX1_shelfToMoveTo 54 = .ok (.iconst 0, 1) := by decide +kernel
theorem dX1_shelfToMoveTo_55 : decode cX1_shelfToMoveTo 55 = .ok (.istore 5, 2) := by decide +kernel
theorem dX1_shelfToMoveTo_57 : decode cX1_shelfToMoveTo 57 = .ok (.iload 5, 2) := by decide +kernel
theorem dX1_shelfToMoveTo_59 : decode cX1_shelfToMoveTo 59 = .ok (.ifCond .eq 16, 3) := by decide +kernel
theorem dX1_shelfToMoveTo_62 : decode cX1_shelfToMoveTo 62 = .ok (.aload_n 1, 1) := by decide +kernel
theorem dX1_shelfToMoveTo_63 : decode cX1_shelfToMoveTo 63 = .ok (.iconst 1, 1) := by decide +kernel
theorem dX1_shelfToMoveTo_64 : decode cX1_shelfToMoveTo 64 = .ok (.iload_n 3, 1) := by decide +kernel
theorem dX1_shelfToMoveTo_65 : decode cX1_shelfToMoveTo 65 = .ok (.invokevirtual 87, 3) := by decide +kernel
theorem dX1_shelfToMoveTo_68 : decode cX1_shelfToMoveTo 68 = .ok (.ifCond .eq 7, 3) := by decide +kernel
theorem dX1_shelfToMoveTo_71 : decode cX1_shelfToMoveTo 71 = .ok (.iconst 1, 1) := by decide +kernel
theorem dX1_shelfToMoveTo_72 : decode cX1_shelfToMoveTo 72 = .ok (.goto 4, 3) := by decide +kernel
theorem dX1_shelfToMoveTo_75 : decode cX1_shelfToMoveTo 75 = .ok (.iconst (-1), 1) := by decide +kernel
theorem dX1_shelfToMoveTo_76 : decode cX1_shelfToMoveTo 76 = .ok (.ireturn, 1) := by decide +kernel
theorem dX1_promiseIfDeep_0 : decode cX1_promiseIfDeep 0 = .ok (.aload_n 1, 1) := by decide +kernel
theorem dX1_promiseIfDeep_1 : decode cX1_promiseIfDeep 1 = .ok (.getfield 62, 3) := by decide +kernel
theorem dX1_promiseIfDeep_4 : decode cX1_promiseIfDeep 4 = .ok (.iload_n 2, 1) := by decide +kernel
theorem dX1_promiseIfDeep_5 : decode cX1_promiseIfDeep 5 = .ok (.invokestatic 23, 3) := by decide +kernel
theorem dX1_promiseIfDeep_8 : decode cX1_promiseIfDeep 8 = .ok (.iconst 2, 1) := by decide +kernel
theorem dX1_promiseIfDeep_9 : decode cX1_promiseIfDeep 9 = .ok (.if_icmp .ne 19, 3) := by decide +kernel
theorem dX1_promiseIfDeep_12 : decode cX1_promiseIfDeep 12 = .ok (.aload_n 1, 1) := by decide +kernel
theorem dX1_promiseIfDeep_13 : decode cX1_promiseIfDeep 13 = .ok (.getfield 59, 3) := by decide +kernel
theorem dX1_promiseIfDeep_16 : decode cX1_promiseIfDeep 16 = .ok (.iload_n 2, 1) := by decide +kernel
theorem dX1_promiseIfDeep_17 : decode cX1_promiseIfDeep 17 = .ok (.aload_n 1, 1) := by decide +kernel
theorem dX1_promiseIfDeep_18 : decode cX1_promiseIfDeep 18 = .ok (.getfield 18, 3) := by decide +kernel
theorem dX1_promiseIfDeep_21 : decode cX1_promiseIfDeep 21 = .ok (.iconst 4, 1) := by decide +kernel
theorem dX1_promiseIfDeep_22 : decode cX1_promiseIfDeep 22 = .ok (.invokestatic 23, 3) := by decide +kernel
theorem dX1_promiseIfDeep_25 : decode cX1_promiseIfDeep 25 = .ok (.invokestatic 53, 3) := by decide +kernel
theorem dX1_promiseIfDeep_28 : decode cX1_promiseIfDeep 28 = .ok (.return_, 1) := by decide +kernel
theorem dX2_init_0 : decode cX2_init 0 = .ok (.aload_n 0, 1) := by decide +kernel
theorem dX2_init_1 : decode cX2_init 1 = .ok (.invokespecial 3, 3) := by decide +kernel
theorem dX2_init_4 : decode cX2_init 4 = .ok (.aload_n 0, 1) := by decide +kernel
theorem dX2_init_5 : decode cX2_init 5 = .ok (.bipush 60, 2) := by decide +kernel
theorem dX2_init_7 : decode cX2_init 7 = .ok (.newarray .int, 2) := by decide +kernel
theorem dX2_init_9 : decode cX2_init 9 = .ok (.putfield 9, 3) := by decide +kernel
theorem dX2_init_12 : decode cX2_init 12 = .ok (.aload_n 0, 1) := by decide +kernel
theorem dX2_init_13 : decode cX2_init 13 = .ok (.iconst 0, 1) := by decide +kernel
theorem dX2_init_14 : decode cX2_init 14 = .ok (.putfield 15, 3) := by decide +kernel
theorem dX2_init_17 : decode cX2_init 17 = .ok (.aload_n 0, 1) := by decide +kernel
theorem dX2_init_18 : decode cX2_init 18 = .ok (.bipush 30, 2) := by decide +kernel
theorem dX2_init_20 : decode cX2_init 20 = .ok (.newarray .int, 2) := by decide +kernel
theorem dX2_init_22 : decode cX2_init 22 = .ok (.putfield 19, 3) := by decide +kernel
theorem dX2_init_25 : decode cX2_init 25 = .ok (.aload_n 0, 1) := by decide +kernel
theorem dX2_init_26 : decode cX2_init 26 = .ok (.bipush 30, 2) := by decide +kernel
theorem dX2_init_28 : decode cX2_init 28 = .ok (.newarray .int, 2) := by decide +kernel
theorem dX2_init_30 : decode cX2_init 30 = .ok (.putfield 22, 3) := by decide +kernel
theorem dX2_init_33 : decode cX2_init 33 = .ok (.aload_n 0, 1) := by decide +kernel
theorem dX2_init_34 : decode cX2_init 34 = .ok (.bipush 30, 2) := by decide +kernel
theorem dX2_init_36 : decode cX2_init 36 = .ok (.newarray .int, 2) := by decide +kernel
theorem dX2_init_38 : decode cX2_init 38 = .ok (.putfield 25, 3) := by decide +kernel
theorem dX2_init_41 : decode cX2_init 41 = .ok (.aload_n 0, 1) := by decide +kernel
theorem dX2_init_42 : decode cX2_init 42 = .ok (.iconst 0, 1) := by decide +kernel
theorem dX2_init_43 : decode cX2_init 43 = .ok (.putfield 28, 3) := by decide +kernel
theorem dX2_init_46 : decode cX2_init 46 = .ok (.aload_n 0, 1) := by decide +kernel
theorem dX2_init_47 : decode cX2_init 47 = .ok (.iconst 0, 1) := by decide +kernel
theorem dX2_init_48 : decode cX2_init 48 = .ok (.putfield 31, 3) := by decide +kernel
theorem dX2_init_51 : decode cX2_init 51 = .ok (.return_, 1) := by decide +kernel
theorem dX3_init_0 : decode cX3_init 0 = .ok (.aload_n 0, 1) := by decide +kernel
theorem dX3_init_1 : decode cX3_init 1 = .ok (.invokespecial 3, 3) := by decide +kernel
theorem dX3_init_4 : decode cX3_init 4 = .ok (.aload_n 0, 1) := by decide +kernel
theorem dX3_init_5 : decode cX3_init 5 = .ok (.bipush 23, 2) := by decide +kernel
theorem dX3_init_7 : decode cX3_init 7 = .ok (.newarray .int, 2) := by decide +kernel
theorem dX3_init_9 : decode cX3_init 9 = .ok (.putfield 9, 3) := by decide +kernel
theorem dX3_init_12 : decode cX3_init 12 = .ok (.aload_n 0, 1) := by decide +kernel
theorem dX3_init_13 : decode cX3_init 13 = .ok (.iconst 3, 1) := by decide +kernel
theorem dX3_init_14 : decode cX3_init 14 = .ok (.newarray .int, 2) := by decide +kernel
theorem dX3_init_16 : decode cX3_init 16 = .ok (.putfield 15, 3) := by decide +kernel
theorem dX3_init_19 : decode cX3_init 19 = .ok (.aload_n 0, 1) := by decide +kernel
theorem dX3_init_20 : decode cX3_init 20 = .ok (.bipush 24, 2) := by decide +kernel
theorem dX3_init_22 : decode cX3_init 22 = .ok (.newarray .int, 2) := by decide +kernel
theorem dX3_init_24 : decode cX3_init 24 = .ok (.putfield 18, 3) := by decide +kernel
theorem dX3_init_27 : decode cX3_init 27 = .ok (.aload_n 0, 1) := by decide +kernel
theorem dX3_init_28 : decode cX3_init 28 = .ok (.bipush 24, 2) := by decide +kernel
theorem dX3_init_30 : decode cX3_init 30 = .ok (.newarray .int, 2) := by decide +kernel
theorem dX3_init_32 : decode cX3_init 32 = .ok (.putfield 21, 3) := by decide +kernel
theorem dX3_init_35 : decode cX3_init 35 = .ok (.aload_n 0, 1) := by decide +kernel
theorem dX3_init_36 : decode cX3_init 36 = .ok (.bipush 24, 2) := by decide +kernel
theorem dX3_init_38 : decode cX3_init 38 = .ok (.newarray .int, 2) := by decide +kernel
theorem dX3_init_40 : decode cX3_init 40 = .ok (.putfield 24, 3) := by decide +kernel
theorem dX3_init_43 : decode cX3_init 43 = .ok (.aload_n 0, 1) := by decide +kernel
theorem dX3_init_44 : decode cX3_init 44 = .ok (.bipush 24, 2) := by decide +kernel
theorem dX3_init_46 : decode cX3_init 46 = .ok (.newarray .int, 2) := by decide +kernel
theorem dX3_init_48 : decode cX3_init 48 = .ok (.putfield 27, 3) := by decide +kernel
theorem dX3_init_51 : decode cX3_init 51 = .ok (.aload_n 0, 1) := by decide +kernel
theorem dX3_init_52 : decode cX3_init 52 = .ok (.bipush 24, 2) := by decide +kernel
theorem dX3_init_54 : decode cX3_init 54 = .ok (.newarray .int, 2) := by decide +kernel
theorem dX3_init_56 : decode cX3_init 56 = .ok (.putfield 30, 3) := by decide +kernel
theorem dX3_init_59 : decode cX3_init 59 = .ok (.aload_n 0, 1) := by decide +kernel
theorem dX3_init_60 : decode cX3_init 60 = .ok (.bipush 24, 2) := by decide +kernel
theorem dX3_init_62 : decode cX3_init 62 = .ok (.newarray .int, 2) := by decide +kernel
theorem dX3_init_64 : decode cX3_init 64 = .ok (.putfield 33, 3) := by decide +kernel
theorem dX3_init_67 : decode cX3_init 67 = .ok (.aload_n 0, 1) := by decide +kernel
theorem dX3_init_68 : decode cX3_init 68 = .ok (.bipush 24, 2) := by decide +kernel
theorem dX3_init_70 : decode cX3_init 70 = .ok (.newarray .int, 2) := by decide +kernel
theorem dX3_init_72 : decode cX3_init 72 = .ok (.putfield 36, 3) := by decide +kernel
theorem dX3_init_75 : decode cX3_init 75 = .ok (.aload_n 0, 1) := by decide +kernel
theorem dX3_init_76 : decode cX3_init 76 = .ok (.bipush 24, 2) := by decide +kernel
theorem dX3_init_78 : decode cX3_init 78 = .ok (.newarray .int, 2) := by decide +kernel
theorem dX3_init_80 : decode cX3_init 80 = .ok (.putfield 39, 3) := by decide +kernel
theorem dX3_init_83 : decode cX3_init 83 = .ok (.iconst 0, 1) := by decide +kernel
theorem dX3_init_84 : decode cX3_init 84 = .ok (.istore_n 1, 1) := by decide +kernel
theorem dX3_init_85 : decode cX3_init 85 = .ok (.iload_n 1, 1) := by decide +kernel
theorem dX3_init_86 : decode cX3_init 86 = .ok (.getstatic 42, 3) := by decide +kernel
theorem dX3_init_89 : decode cX3_init 89 = .ok (.arraylength, 1) := by decide +kernel
theorem dX3_init_90 : decode cX3_init 90 = .ok (.if_icmp .ge 29, 3) := by decide +kernel
theorem dX3_init_93 : decode cX3_init 93 = .ok (.iload_n 1, 1) := by decide +kernel
theorem dX3_init_94 : decode cX3_init 94 = .ok (.aload_n 0, 1) := by decide +kernel
theorem dX3_init_95 : decode cX3_init 95 = .ok (.getfield 9, 3) := by decide +kernel
theorem dX3_init_98 : decode cX3_init 98 = .ok (.arraylength, 1) := by decide +kernel
theorem dX3_init_99 : decode cX3_init 99 = .ok (.if_icmp .ge 20, 3) := by decide +kernel
theorem dX3_init_102 : decode cX3_init 102 = .ok (.aload_n 0, 1) := by decide +kernel
theorem dX3_init_103 : decode cX3_init 103 = .ok (.getfield 9, 3) := by decide +kernel
theorem dX3_init_106 : decode cX3_init 106 = .ok (.iload_n 1, 1) := by decide +kernel
theorem dX3_init_107 : decode cX3_init 107 = .ok (.getstatic 42, 3) := by decide +kernel
theorem dX3_init_110 : decode cX3_init 110 = .ok (.iload_n 1, 1) := by decide +kernel
theorem dX3_init_111 : decode cX3_init 111 = .ok (.iaload, 1) := by decide +kernel
theorem dX3_init_112 : decode cX3_init 112 = .ok (.iastore, 1) := by decide +kernel
theorem dX3_init_113 : decode cX3_init 113 = .ok (.iinc 1 1, 3) := by decide +kernel
theorem dX3_init_116 : decode cX3_init 116 = .ok (.goto (-31), 3) := by decide +kernel
theorem dX3_init_119 : decode cX3_init 119 = .ok (.return_, 1) := by decide +kernel
theorem dX3_copyFrom_0 : decode cX3_copyFrom 0 = .ok (.aload_n 1, 1) := by decide +kernel
theorem dX3_copyFrom_1 : decode cX3_copyFrom 1 = .ok (.getfield 9, 3) := by decide +kernel
theorem dX3_copyFrom_4 : decode cX3_copyFrom 4 = .ok (.aload_n 0, 1) := by decide +kernel
theorem dX3_copyFrom_5 : decode cX3_copyFrom 5 = .ok (.getfield 9, 3) := by decide +kernel
theorem dX3_copyFrom_8 : decode cX3_copyFrom 8 = .ok (.invokestatic 45, 3) := by decide +kernel
theorem dX3_copyFrom_11 : decode cX3_copyFrom 11 = .ok (.aload_n 1, 1) := by decide +kernel
theorem dX3_copyFrom_12 : decode cX3_copyFrom 12 = .ok (.getfield 15, 3) := by decide +kernel
theorem dX3_copyFrom_15 : decode cX3_copyFrom 15 = .ok (.aload_n 0, 1) := by decide +kernel
theorem dX3_copyFrom_16 : decode cX3_copyFrom 16 = .ok (.getfield 15, 3) := by decide +kernel
theorem dX3_copyFrom_19 : decode cX3_copyFrom 19 = .ok (.invokestatic 45, 3) := by decide +kernel
theorem dX3_copyFrom_22 : decode cX3_copyFrom 22 = .ok (.aload_n 1, 1) := by decide +kernel
theorem dX3_copyFrom_23 : decode cX3_copyFrom 23 = .ok (.getfield 18, 3) := by decide +kernel
theorem dX3_copyFrom_26 : decode cX3_copyFrom 26 = .ok (.aload_n 0, 1) := by decide +kernel
theorem dX3_copyFrom_27 : decode cX3_copyFrom 27 = .ok (.getfield 18, 3) := by decide +kernel
theorem dX3_copyFrom_30 : decode cX3_copyFrom 30 = .ok (.invokestatic 45, 3) := by decide +kernel
theorem dX3_copyFrom_33 : decode cX3_copyFrom 33 = .ok (.aload_n 1, 1) := by decide +kernel
theorem dX3_copyFrom_34 : decode cX3_copyFrom 34 = .ok (.getfield 21, 3) := by decide +kernel
theorem dX3_copyFrom_37 : decode cX3_copyFrom 37 = .ok (.aload_n 0, 1) := by decide +kernel
theorem dX3_copyFrom_38 : decode cX3_copyFrom 38 = .ok (.getfield 21, 3) := by decide +kernel
theorem dX3_copyFrom_41 : decode cX3_copyFrom 41 = .ok (.invokestatic 45, 3) := by decide +kernel
theorem dX3_copyFrom_44 : decode cX3_copyFrom 44 = .ok (.aload_n 1, 1) := by decide +kernel
theorem dX3_copyFrom_45 : decode cX3_copyFrom 45 = .ok (.getfield 24, 3) := by decide +kernel
theorem dX3_copyFrom_48 : decode cX3_copyFrom 48 = .ok (.aload_n 0, 1) := by decide +kernel
theorem dX3_copyFrom_49 : decode cX3_copyFrom 49 = .ok (.getfield 24, 3) := by decide +kernel
theorem dX3_copyFrom_52 : decode cX3_copyFrom 52 = .ok (.invokestatic 45, 3) := by decide +kernel
theorem dX3_copyFrom_55 : decode cX3_copyFrom 55 = .ok (.aload_n 1, 1) := by decide +kernel
theorem dX3_copyFrom_56 : decode cX3_copyFrom 56 = .ok (.getfield 27, 3) := by decide +kernel
theorem dX3_copyFrom_59 : decode cX3_copyFrom 59 = .ok (.aload_n 0, 1) := by decide +kernel
theorem dX3_copyFrom_60 : decode cX3_copyFrom 60 = .ok (.getfield 27, 3) := by decide +kernel
theorem dX3_copyFrom_63 : decode cX3_copyFrom 63 = .ok (.invokestatic 45, 3) := by decide +kernel
theorem dX3_copyFrom_66 : decode cX3_copyFrom 66 = .ok (.aload_n 1, 1) := by decide +kernel
theorem dX3_copyFrom_67 : decode cX3_copyFrom 67 = .ok (.getfield 30, 3) := by decide +kernel
theorem dX3_copyFrom_70 : decode cX3_copyFrom 70 = .ok (.aload_n 0, 1) := by decide +kernel
theorem dX3_copyFrom_71 : decode cX3_copyFrom 71 = .ok (.getfield 30, 3) := by decide +kernel
theorem dX3_copyFrom_74 : decode cX3_copyFrom 74 = .ok (.invokestatic 45, 3) := by decide +kernel
theorem dX3_copyFrom_77 : decode cX3_copyFrom 77 = .ok (.aload_n 1, 1) := by decide +kernel
theorem dX3_copyFrom_78 : decode cX3_copyFrom 78 = .ok (.getfield 33, 3) := by decide +kernel
theorem dX3_copyFrom_81 : decode cX3_copyFrom 81 = .ok (.aload_n 0, 1) := by decide +kernel
theorem dX3_copyFrom_82 : decode cX3_copyFrom 82 = .ok (.getfield 33, 3) := by decide +kernel
theorem dX3_copyFrom_85 : decode cX3_copyFrom 85 = .ok (.invokestatic 45, 3) := by decide +kernel
theorem dX3_copyFrom_88 : decode cX3_copyFrom 88 = .ok (.aload_n 1, 1) := by decide +kernel
theorem dX3_copyFrom_89 : decode cX3_copyFrom 89 = .ok (.getfield 36, 3) := by decide +kernel
theorem dX3_copyFrom_92 : decode cX3_copyFrom 92 = .ok (.aload_n 0, 1) := by decide +kernel
theorem dX3_copyFrom_93 : decode cX3_copyFrom 93 = .ok (.getfield 36, 3) := by decide +kernel
theorem dX3_copyFrom_96 : decode cX3_copyFrom 96 = .ok (.invokestatic 45, 3) := by decide +kernel
theorem dX3_copyFrom_99 : decode cX3_copyFrom 99 = .ok (.aload_n 1, 1) := by decide +kernel
theorem dX3_copyFrom_100 : decode cX3_copyFrom 100 = .ok (.getfield 39, 3) := by decide +kernel
theorem dX3_copyFrom_103 : decode cX3_copyFrom 103 = .ok (.aload_n 0, 1) := by decide +kernel
theorem dX3_copyFrom_104 : decode cX3_copyFrom 104 = .ok (.getfield 39, 3) := by decide +kernel
theorem dX3_copyFrom_107 : decode cX3_copyFrom 107 = .ok (.invokestatic 45, 3) := by decide +kernel
theorem dX3_copyFrom_110 : decode cX3_copyFrom 110 = .ok (.return_, 1) := by decide +kernel
theorem dX3_countBlocks_0 : decode cX3_countBlocks 0 = .ok (.aload_n 0, 1) := by decide +kernel
theorem dX3_countBlocks_1 : decode cX3_countBlocks 1 = .ok (.getfield 9, 3) := by decide +kernel
theorem dX3_countBlocks_4 : decode cX3_countBlocks 4 = .ok (.bipush 15, 2) := by decide +kernel
theorem dX3_countBlocks_6 : decode cX3_countBlocks 6 = .ok (.invokestatic 49, 3) := by decide +kernel
theorem dX3_countBlocks_9 : decode cX3_countBlocks 9 = .ok (.ireturn, 1) := by decide +kernel
theorem dX3_find_0 : decode cX3_find 0 = .ok (.aload_n 0, 1) := by decide +kernel
theorem dX3_find_1 : decode cX3_find 1 = .ok (.invokevirtual 53, 3) := by decide +kernel
theorem dX3_find_4 : decode cX3_find 4 = .ok (.istore_n 2, 1) := by decide +kernel
theorem dX3_find_5 : decode cX3_find 5 = .ok (.iconst 0, 1) := by decide +kernel
theorem dX3_find_6 : decode cX3_find 6 = .ok (.istore_n 3, 1) := by decide +kernel
theorem dX3_find_7 : decode cX3_find 7 = .ok (.iload_n 3, 1) := by decide +kernel
theorem dX3_find_8 : decode cX3_find 8 = .ok (.iload_n 2, 1) := by decide +kernel
theorem dX3_find_9 : decode cX3_find 9 = .ok (.if_icmp .ge 23, 3) := by decide +kernel
theorem dX3_find_12 : decode cX3_find 12 = .ok (.aload_n 0, 1) := by decide +kernel
theorem dX3_find_13 : decode cX3_find 13 = .ok (.getfield 18, 3) := by decide +kernel
theorem dX3_find_16 : decode cX3_find 16 = .ok (.iload_n 3, 1) := by decide +kernel
theorem dX3_find_17 : decode cX3_find 17 = .ok (.invokestatic 49, 3) := by decide +kernel
theorem dX3_find_20 : decode cX3_find 20 = .ok (.iload_n 1, 1) := by decide +kernel
theorem dX3_find_21 : decode cX3_find 21 = .ok (.if_icmp .ne 5, 3) := by decide +kernel
theorem dX3_find_24 : decode cX3_find 24 = .ok (.iload_n 3, 1) := by decide +kernel
theorem dX3_find_25 : decode cX3_find 25 = .ok (.ireturn, 1) := by decide +kernel
theorem dX3_find_26 : decode cX3_find 26 = .ok (.iinc 3 1, 3) := by decide +kernel
theorem dX3_find_29 : decode cX3_find 29 = .ok (.goto (-22), 3) := by decide +kernel
theorem dX3_find_32 : decode cX3_find 32 = .ok (.iconst (-1), 1) := by decide +kernel
theorem dX3_find_33 : decode cX3_find 33 = .ok (.ireturn, 1) := by decide +kernel
theorem dX3_placeOfRank_0 : decode cX3_placeOfRank 0 = .ok (.aload_n 0, 1) := by decide +kernel
theorem dX3_placeOfRank_1 : decode cX3_placeOfRank 1 = .ok (.invokevirtual 53, 3) := by decide +kernel
theorem dX3_placeOfRank_4 : decode cX3_placeOfRank 4 = .ok (.istore_n 2, 1) := by decide +kernel
theorem dX3_placeOfRank_5 : decode cX3_placeOfRank 5 = .ok (.iconst 0, 1) := by decide +kernel
theorem dX3_placeOfRank_6 : decode cX3_placeOfRank 6 = .ok (.istore_n 3, 1) := by decide +kernel
theorem dX3_placeOfRank_7 : decode cX3_placeOfRank 7 = .ok (.iload_n 3, 1) := by decide +kernel
theorem dX3_placeOfRank_8 : decode cX3_placeOfRank 8 = .ok (.iload_n 2, 1) := by decide +kernel
theorem dX3_placeOfRank_9 : decode cX3_placeOfRank 9 = .ok (.if_icmp .ge 20, 3) := by decide +kernel
theorem dX3_placeOfRank_12 : decode cX3_placeOfRank 12 = .ok (.aload_n 0, 1) := by decide +kernel
theorem dX3_placeOfRank_13 : decode cX3_placeOfRank 13 = .ok (.iload_n 3, 1) := by decide +kernel
theorem dX3_placeOfRank_14 : decode cX3_placeOfRank 14 = .ok (.invokevirtual 57, 3) := by decide +kernel
theorem dX3_placeOfRank_17 : decode cX3_placeOfRank 17 = .ok (.iload_n 1, 1) := by decide +kernel
theorem dX3_placeOfRank_18 : decode cX3_placeOfRank 18 = .ok (.if_icmp .ne 5, 3) := by decide +kernel
theorem dX3_placeOfRank_21 : decode cX3_placeOfRank 21 = .ok (.iload_n 3, 1) := by decide +kernel
theorem dX3_placeOfRank_22 : decode cX3_placeOfRank 22 = .ok (.ireturn, 1) := by decide +kernel
theorem dX3_placeOfRank_23 : decode cX3_placeOfRank 23 = .ok (.iinc 3 1, 3) := by decide +kernel
theorem dX3_placeOfRank_26 : decode cX3_placeOfRank 26 = .ok (.goto (-19), 3) := by decide +kernel
theorem dX3_placeOfRank_29 : decode cX3_placeOfRank 29 = .ok (.iconst (-1), 1) := by decide +kernel
theorem dX3_placeOfRank_30 : decode cX3_placeOfRank 30 = .ok (.ireturn, 1) := by decide +kernel
theorem dX3_countHotter_0 : decode cX3_countHotter 0 = .ok (.aload_n 0, 1) := by decide +kernel
theorem dX3_countHotter_1 : decode cX3_countHotter 1 = .ok (.invokevirtual 53, 3) := by decide +kernel
theorem dX3_countHotter_4 : decode cX3_countHotter 4 = .ok (.istore_n 2, 1) := by decide +kernel
theorem dX3_countHotter_5 : decode cX3_countHotter 5 = .ok (.aload_n 0, 1) := by decide +kernel
theorem dX3_countHotter_6 : decode cX3_countHotter 6 = .ok (.getfield 24, 3) := by decide +kernel
theorem dX3_countHotter_9 : decode cX3_countHotter 9 = .ok (.iload_n 1, 1) := by decide +kernel
theorem dX3_countHotter_10 : decode cX3_countHotter 10 = .ok (.invokestatic 49, 3) := by decide +kernel
theorem dX3_countHotter_13 : decode cX3_countHotter 13 = .ok (.istore_n 3, 1) := by decide +kernel
theorem dX3_countHotter_14 : decode cX3_countHotter 14 = .ok (.iconst 0, 1) := by decide +kernel
theorem dX3_countHotter_15 : decode cX3_countHotter 15 = .ok (.istore 4, 2) := by decide +kernel
theorem dX3_countHotter_17 : decode cX3_countHotter 17 = .ok (.iconst 0, 1) := by decide +kernel
theorem dX3_countHotter_18 : decode cX3_countHotter 18 = .ok (.istore 5, 2) := by decide +kernel
theorem dX3_countHotter_20 : decode cX3_countHotter 20 = .ok (.iload 5, 2) := by decide +kernel
theorem dX3_countHotter_22 : decode cX3_countHotter 22 = .ok (.iload_n 2, 1) := by decide +kernel
theorem dX3_countHotter_23 : decode cX3_countHotter 23 = .ok (.if_icmp .ge 41, 3) := by decide +kernel
theorem dX3_countHotter_26 : decode cX3_countHotter 26 = .ok (.aload_n 0, 1) := by decide +kernel
theorem dX3_countHotter_27 : decode cX3_countHotter 27 = .ok (.getfield 24, 3) := by decide +kernel
theorem dX3_countHotter_30 : decode cX3_countHotter 30 = .ok (.iload 5, 2) := by decide +kernel
theorem dX3_countHotter_32 : decode cX3_countHotter 32 = .ok (.invokestatic 49, 3) := by decide +kernel
theorem dX3_countHotter_35 : decode cX3_countHotter 35 = .ok (.istore 6, 2) := by decide +kernel
theorem dX3_countHotter_37 : decode cX3_countHotter 37 = .ok (.iload 6, 2) := by decide +kernel
theorem dX3_countHotter_39 : decode cX3_countHotter 39 = .ok (.iload_n 3, 1) := by decide +kernel
theorem dX3_countHotter_40 : decode cX3_countHotter 40 = .ok (.if_icmp .gt 15, 3) := by decide +kernel
theorem dX3_countHotter_43 : decode cX3_countHotter 43 = .ok (.iload 6, 2) := by decide +kernel
theorem dX3_countHotter_45 : decode cX3_countHotter 45 = .ok (.iload_n 3, 1) := by decide +kernel
theorem dX3_countHotter_46 : decode cX3_countHotter 46 = .ok (.if_icmp .ne 12, 3) := by decide +kernel
theorem dX3_countHotter_49 : decode cX3_countHotter 49 = .ok (.iload 5, 2) := by decide +kernel
theorem dX3_countHotter_51 : decode cX3_countHotter 51 = .ok (.iload_n 1, 1) := by decide +kernel
theorem dX3_countHotter_52 : decode cX3_countHotter 52 = .ok (.if_icmp .ge 6, 3) := by decide +kernel
theorem dX3_countHotter_55 : decode cX3_countHotter 55 = .ok (.iinc 4 1, 3) := by decide +kernel
theorem dX3_countHotter_58 : decode cX3_countHotter 58 = .ok (.iinc 5 1, 3) := by decide +kernel
theorem dX3_countHotter_61 : decode cX3_countHotter 61 = .ok (.goto (-41), 3) := by decide +kernel
theorem dX3_countHotter_64 : decode cX3_countHotter 64 = .ok (.iload 4, 2) := by decide +kernel
theorem dX3_countHotter_66 : decode cX3_countHotter 66 = .ok (.ireturn, 1) := by decide +kernel
theorem dX3_wantedShelf_0 : decode cX3_wantedShelf 0 = .ok (.aload_n 0, 1) := by decide +kernel
theorem dX3_wantedShelf_1 : decode cX3_wantedShelf 1 = .ok (.getfield 24, 3) := by decide +kernel
theorem dX3_wantedShelf_4 : decode cX3_wantedShelf 4 = .ok (.iload_n 1, 1) := by decide +kernel
theorem dX3_wantedShelf_5 : decode cX3_wantedShelf 5 = .ok (.invokestatic 49, 3) := by decide +kernel
theorem dX3_wantedShelf_8 : decode cX3_wantedShelf 8 = .ok (.istore_n 2, 1) := by decide +kernel
theorem dX3_wantedShelf_9 : decode cX3_wantedShelf 9 = .ok (.iload_n 2, 1) := by decide +kernel
theorem dX3_wantedShelf_10 : decode cX3_wantedShelf 10 = .ok (.aload_n 0, 1) := by decide +kernel
theorem dX3_wantedShelf_11 : decode cX3_wantedShelf 11 = .ok (.getfield 9, 3) := by decide +kernel
theorem dX3_wantedShelf_14 : decode cX3_wantedShelf 14 = .ok (.iconst 1, 1) := by decide +kernel
theorem dX3_wantedShelf_15 : decode cX3_wantedShelf 15 = .ok (.invokestatic 49, 3) := by decide +kernel
theorem dX3_wantedShelf_18 : decode cX3_wantedShelf 18 = .ok (.if_icmp .lt 5, 3) := by decide +kernel
theorem dX3_wantedShelf_21 : decode cX3_wantedShelf 21 = .ok (.iconst 0, 1) := by decide +kernel
theorem dX3_wantedShelf_22 : decode cX3_wantedShelf 22 = .ok (.ireturn, 1) := by decide +kernel
theorem dX3_wantedShelf_23 : decode cX3_wantedShelf 23 = .ok (.iload_n 2, 1) := by decide +kernel
theorem dX3_wantedShelf_24 : decode cX3_wantedShelf 24 = .ok (.aload_n 0, 1) := by decide +kernel
theorem dX3_wantedShelf_25 : decode cX3_wantedShelf 25 = .ok (.getfield 9, 3) := by decide +kernel
theorem dX3_wantedShelf_28 : decode cX3_wantedShelf 28 = .ok (.iconst 2, 1) := by decide +kernel
theorem dX3_wantedShelf_29 : decode cX3_wantedShelf 29 = .ok (.invokestatic 49, 3) := by decide +kernel
theorem dX3_wantedShelf_32 : decode cX3_wantedShelf 32 = .ok (.if_icmp .lt 7, 3) := by decide +kernel
theorem dX3_wantedShelf_35 : decode cX3_wantedShelf 35 = .ok (.iconst 1, 1) := by decide +kernel
theorem dX3_wantedShelf_36 : decode cX3_wantedShelf 36 = .ok (.goto 4, 3) := by decide +kernel
theorem dX3_wantedShelf_39 : decode cX3_wantedShelf 39 = .ok (.iconst 2, 1) := by decide +kernel
theorem dX3_wantedShelf_40 : decode cX3_wantedShelf 40 = .ok (.ireturn, 1) := by decide +kernel
theorem dX3_hasRoom_0 : decode cX3_hasRoom 0 = .ok (.iload_n 1, 1) := by decide +kernel
theorem dX3_hasRoom_1 : decode cX3_hasRoom 1 = .ok (.ifCond .lt 32, 3) := by decide +kernel
theorem dX3_hasRoom_4 : decode cX3_hasRoom 4 = .ok (.iload_n 1, 1) := by decide +kernel
theorem dX3_hasRoom_5 : decode cX3_hasRoom 5 = .ok (.iconst 3, 1) := by decide +kernel
theorem dX3_hasRoom_6 : decode cX3_hasRoom 6 = .ok (.if_icmp .ge 27, 3) := by decide +kernel
theorem dX3_hasRoom_9 : decode cX3_hasRoom 9 = .ok (.aload_n 0, 1) := by decide +kernel
theorem dX3_hasRoom_10 : decode cX3_hasRoom 10 = .ok (.getfield 15, 3) := by decide +kernel
theorem dX3_hasRoom_13 : decode cX3_hasRoom 13 = .ok (.iload_n 1, 1) := by decide +kernel
theorem dX3_hasRoom_14 : decode cX3_hasRoom 14 = .ok (.iaload, 1) := by decide +kernel
theorem dX3_hasRoom_15 : decode cX3_hasRoom 15 = .ok (.iload_n 2, 1) := by decide +kernel
theorem dX3_hasRoom_16 : decode cX3_hasRoom 16 = .ok (.iadd, 1) := by decide +kernel
theorem dX3_hasRoom_17 : decode cX3_hasRoom 17 = .ok (.aload_n 0, 1) := by decide +kernel
theorem dX3_hasRoom_18 : decode cX3_hasRoom 18 = .ok (.getfield 9, 3) := by decide +kernel
theorem dX3_hasRoom_21 : decode cX3_hasRoom 21 = .ok (.bipush 6, 2) := by decide +kernel
theorem dX3_hasRoom_23 : decode cX3_hasRoom 23 = .ok (.iload_n 1, 1) := by decide +kernel
theorem dX3_hasRoom_24 : decode cX3_hasRoom 24 = .ok (.iadd, 1) := by decide +kernel
theorem dX3_hasRoom_25 : decode cX3_hasRoom 25 = .ok (.iaload, 1) := by decide +kernel
theorem dX3_hasRoom_26 : decode cX3_hasRoom 26 = .ok (.if_icmp .gt 7, 3) := by decide +kernel
theorem dX3_hasRoom_29 : decode cX3_hasRoom 29 = .ok (.iconst 1, 1) := by decide +kernel
theorem dX3_hasRoom_30 : decode cX3_hasRoom 30 = .ok (.goto 4, 3) := by decide +kernel
theorem dX3_hasRoom_33 : decode cX3_hasRoom 33 = .ok (.iconst 0, 1) := by decide +kernel
theorem dX3_hasRoom_34 : decode cX3_hasRoom 34 = .ok (.ireturn, 1) := by decide +kernel
theorem dX3_countOnShelf_0 : decode cX3_countOnShelf 0 = .ok (.aload_n 0, 1) := by decide +kernel
theorem dX3_countOnShelf_1 : decode cX3_countOnShelf 1 = .ok (.invokevirtual 53, 3) := by decide +kernel
theorem dX3_countOnShelf_4 : decode cX3_countOnShelf 4 = .ok (.istore_n 2, 1) := by decide +kernel
theorem dX3_countOnShelf_5 : decode cX3_countOnShelf 5 = .ok (.iconst 0, 1) := by decide +kernel
theorem dX3_countOnShelf_6 : decode cX3_countOnShelf 6 = .ok (.istore_n 3, 1) := by decide +kernel
theorem dX3_countOnShelf_7 : decode cX3_countOnShelf 7 = .ok (.iconst 0, 1) := by decide +kernel
theorem dX3_countOnShelf_8 : decode cX3_countOnShelf 8 = .ok (.istore 4, 2) := by decide +kernel
theorem dX3_countOnShelf_10 : decode cX3_countOnShelf 10 = .ok (.iload 4, 2) := by decide +kernel
theorem dX3_countOnShelf_12 : decode cX3_countOnShelf 12 = .ok (.iload_n 2, 1) := by decide +kernel
theorem dX3_countOnShelf_13 : decode cX3_countOnShelf 13 = .ok (.if_icmp .ge 25, 3) := by decide +kernel
theorem dX3_countOnShelf_16 : decode cX3_countOnShelf 16 = .ok (.aload_n 0, 1) := by decide +kernel
theorem dX3_countOnShelf_17 : decode cX3_countOnShelf 17 = .ok (.getfield 27, 3) := by decide +kernel
theorem dX3_countOnShelf_20 : decode cX3_countOnShelf 20 = .ok (.iload 4, 2) := by decide +kernel
theorem dX3_countOnShelf_22 : decode cX3_countOnShelf 22 = .ok (.invokestatic 49, 3) := by decide +kernel
theorem dX3_countOnShelf_25 : decode cX3_countOnShelf 25 = .ok (.iload_n 1, 1) := by decide +kernel
theorem dX3_countOnShelf_26 : decode cX3_countOnShelf 26 = .ok (.if_icmp .ne 6, 3) := by decide +kernel
theorem dX3_countOnShelf_29 : decode cX3_countOnShelf 29 = .ok (.iinc 3 1, 3) := by decide +kernel
theorem dX3_countOnShelf_32 : decode cX3_countOnShelf 32 = .ok (.iinc 4 1, 3) := by decide +kernel
theorem dX3_countOnShelf_35 : decode cX3_countOnShelf 35 = .ok (.goto (-25), 3) := by decide +kernel
theorem dX3_countOnShelf_38 : decode cX3_countOnShelf 38 = .ok (.iload_n 3, 1) := by decide +kernel
theorem dX3_countOnShelf_39 : decode cX3_countOnShelf 39 = .ok (.ireturn, 1) := by decide +kernel
theorem dX3_heatOnShelf_0 : decode cX3_heatOnShelf 0 = .ok (.aload_n 0, 1) := by decide +kernel
theorem dX3_heatOnShelf_1 : decode cX3_heatOnShelf 1 = .ok (.invokevirtual 53, 3) := by decide +kernel
theorem dX3_heatOnShelf_4 : decode cX3_heatOnShelf 4 = .ok (.istore_n 2, 1) := by decide +kernel
theorem dX3_heatOnShelf_5 : decode cX3_heatOnShelf 5 = .ok (.iconst 0, 1) := by decide +kernel
theorem dX3_heatOnShelf_6 : decode cX3_heatOnShelf 6 = .ok (.istore_n 3, 1) := by decide +kernel
theorem dX3_heatOnShelf_7 : decode cX3_heatOnShelf 7 = .ok (.iconst 0, 1) := by decide +kernel
theorem dX3_heatOnShelf_8 : decode cX3_heatOnShelf 8 = .ok (.istore 4, 2) := by decide +kernel
theorem dX3_heatOnShelf_10 : decode cX3_heatOnShelf 10 = .ok (.iload 4, 2) := by decide +kernel
theorem dX3_heatOnShelf_12 : decode cX3_heatOnShelf 12 = .ok (.iload_n 2, 1) := by decide +kernel
theorem dX3_heatOnShelf_13 : decode cX3_heatOnShelf 13 = .ok (.if_icmp .ge 34, 3) := by decide +kernel
theorem dX3_heatOnShelf_16 : decode cX3_heatOnShelf 16 = .ok (.aload_n 0, 1) := by decide +kernel
theorem dX3_heatOnShelf_17 : decode cX3_heatOnShelf 17 = .ok (.getfield 27, 3) := by decide +kernel
theorem dX3_heatOnShelf_20 : decode cX3_heatOnShelf 20 = .ok (.iload 4, 2) := by decide +kernel
theorem dX3_heatOnShelf_22 : decode cX3_heatOnShelf 22 = .ok (.invokestatic 49, 3) := by decide +kernel
theorem dX3_heatOnShelf_25 : decode cX3_heatOnShelf 25 = .ok (.iload_n 1, 1) := by decide +kernel
theorem dX3_heatOnShelf_26 : decode cX3_heatOnShelf 26 = .ok (.if_icmp .ne 15, 3) := by decide +kernel
theorem dX3_heatOnShelf_29 : decode cX3_heatOnShelf 29 = .ok (.iload_n 3, 1) := by decide +kernel
theorem dX3_heatOnShelf_30 : decode cX3_heatOnShelf 30 = .ok (.aload_n 0, 1) := by decide +kernel
theorem dX3_heatOnShelf_31 : decode cX3_heatOnShelf 31 = .ok (.getfield 24, 3) := by decide +kernel
theorem dX3_heatOnShelf_34 : decode cX3_heatOnShelf 34 = .ok (.iload 4, 2) := by decide +kernel
theorem dX3_heatOnShelf_36 : decode cX3_heatOnShelf 36 = .ok (.invokestatic 49, 3) := by decide +kernel
theorem dX3_heatOnShelf_39 : decode cX3_heatOnShelf 39 = .ok (.iadd, 1) := by decide +kernel
theorem dX3_heatOnShelf_40 : decode cX3_heatOnShelf 40 = .ok (.istore_n 3, 1) := by decide +kernel
theorem dX3_heatOnShelf_41 : decode cX3_heatOnShelf 41 = .ok (.iinc 4 1, 3) := by decide +kernel
theorem dX3_heatOnShelf_44 : decode cX3_heatOnShelf 44 = .ok (.goto (-34), 3) := by decide +kernel
theorem dX3_heatOnShelf_47 : decode cX3_heatOnShelf 47 = .ok (.iload_n 3, 1) := by decide +kernel
theorem dX3_heatOnShelf_48 : decode cX3_heatOnShelf 48 = .ok (.ireturn, 1) := by decide +kernel
theorem dX3_heatOfAll_0 : decode cX3_heatOfAll 0 = .ok (.iconst 0, 1) := by decide +kernel
theorem dX3_heatOfAll_1 : decode cX3_heatOfAll 1 = .ok (.istore_n 1, 1) := by decide +kernel
theorem dX3_heatOfAll_2 : decode cX3_heatOfAll 2 = .ok (.iconst 0, 1) := by decide +kernel
theorem dX3_heatOfAll_3 : decode cX3_heatOfAll 3 = .ok (.istore_n 2, 1) := by decide +kernel
theorem dX3_heatOfAll_4 : decode cX3_heatOfAll 4 = .ok (.iload_n 2, 1) := by decide +kernel
theorem dX3_heatOfAll_5 : decode cX3_heatOfAll 5 = .ok (.iconst 3, 1) := by decide +kernel
theorem dX3_heatOfAll_6 : decode cX3_heatOfAll 6 = .ok (.if_icmp .ge 17, 3) := by decide +kernel
theorem dX3_heatOfAll_9 : decode cX3_heatOfAll 9 = .ok (.iload_n 1, 1) := by decide +kernel
theorem dX3_heatOfAll_10 : decode cX3_heatOfAll 10 = .ok (.aload_n 0, 1) := by decide +kernel
theorem dX3_heatOfAll_11 : decode cX3_heatOfAll 11 = .ok (.iload_n 2, 1) := by decide +kernel
theorem dX3_heatOfAll_12 : decode cX3_heatOfAll 12 = .ok (.invokevirtual 61, 3) := by decide +kernel
theorem dX3_heatOfAll_15 : decode cX3_heatOfAll 15 = .ok (.iadd, 1) := by decide +kernel
theorem dX3_heatOfAll_16 : decode cX3_heatOfAll 16 = .ok (.istore_n 1, 1) := by decide +kernel
theorem dX3_heatOfAll_17 : decode cX3_heatOfAll 17 = .ok (.iinc 2 1, 3) := by decide +kernel
theorem dX3_heatOfAll_20 : decode cX3_heatOfAll 20 = .ok (.goto (-16), 3) := by decide +kernel
theorem dX3_heatOfAll_23 : decode cX3_heatOfAll 23 = .ok (.iload_n 1, 1) := by decide +kernel
theorem dX3_heatOfAll_24 : decode cX3_heatOfAll 24 = .ok (.ireturn, 1) := by decide +kernel
theorem dX3_nightPriceOfShelf_0 : decode cX3_nightPriceOfShelf 0 = .ok (.aload_n 0, 1) := by decide +kernel
theorem dX3_nightPriceOfShelf_1 : decode cX3_nightPriceOfShelf 1 = .ok (.getfield 15, 3) := by decide +kernel
theorem dX3_nightPriceOfShelf_4 : decode cX3_nightPriceOfShelf 4 = .ok (.iload_n 1, 1) := by decide +kernel
theorem dX3_nightPriceOfShelf_5 : decode cX3_nightPriceOfShelf 5 = .ok (.invokestatic 49, 3) := by decide +kernel
theorem dX3_nightPriceOfShelf_8 : decode cX3_nightPriceOfShelf 8 = .ok (.aload_n 0, 1) := by decide +kernel
theorem dX3_nightPriceOfShelf_9 : decode cX3_nightPriceOfShelf 9 = .ok (.getfield 9, 3) := by decide +kernel
theorem dX3_nightPriceOfShelf_12 : decode cX3_nightPriceOfShelf 12 = .ok (.bipush 9, 2) := by decide +kernel
theorem dX3_nightPriceOfShelf_14 : decode cX3_nightPriceOfShelf 14 = .ok (.iload_n 1, 1) := by decide +kernel
theorem dX3_nightPriceOfShelf_15 : decode cX3_nightPriceOfShelf 15 = .ok (.iadd, 1) := by decide +kernel
theorem dX3_nightPriceOfShelf_16 : decode cX3_nightPriceOfShelf 16 = .ok (.invokestatic 49, 3) := by decide +kernel
theorem dX3_nightPriceOfShelf_19 : decode cX3_nightPriceOfShelf 19 = .ok (.imul, 1) := by decide +kernel
theorem dX3_nightPriceOfShelf_20 : decode cX3_nightPriceOfShelf 20 = .ok (.ireturn, 1) := by decide +kernel
theorem dX3_countPinned_0 : decode cX3_countPinned 0 = .ok (.aload_n 0, 1) := by decide +kernel
theorem dX3_countPinned_1 : decode cX3_countPinned 1 = .ok (.invokevirtual 53, 3) := by decide +kernel
theorem dX3_countPinned_4 : decode cX3_countPinned 4 = .ok (.istore_n 1, 1) := by decide +kernel
theorem dX3_countPinned_5 : decode cX3_countPinned 5 = .ok (.iconst 0, 1) := by decide +kernel
theorem dX3_countPinned_6 : decode cX3_countPinned 6 = .ok (.istore_n 2, 1) := by decide +kernel
theorem dX3_countPinned_7 : decode cX3_countPinned 7 = .ok (.iconst 0, 1) := by decide +kernel
theorem dX3_countPinned_8 : decode cX3_countPinned 8 = .ok (.istore_n 3, 1) := by decide +kernel
theorem dX3_countPinned_9 : decode cX3_countPinned 9 = .ok (.iload_n 3, 1) := by decide +kernel
theorem dX3_countPinned_10 : decode cX3_countPinned 10 = .ok (.iload_n 1, 1) := by decide +kernel
theorem dX3_countPinned_11 : decode cX3_countPinned 11 = .ok (.if_icmp .ge 20, 3) := by decide +kernel
theorem dX3_countPinned_14 : decode cX3_countPinned 14 = .ok (.iload_n 2, 1) := by decide +kernel
theorem dX3_countPinned_15 : decode cX3_countPinned 15 = .ok (.aload_n 0, 1) := by decide +kernel
theorem dX3_countPinned_16 : decode cX3_countPinned 16 = .ok (.getfield 30, 3) := by decide +kernel
theorem dX3_countPinned_19 : decode cX3_countPinned 19 = .ok (.iload_n 3, 1) := by decide +kernel
theorem dX3_countPinned_20 : decode cX3_countPinned 20 = .ok (.invokestatic 49, 3) := by decide +kernel
theorem dX3_countPinned_23 : decode cX3_countPinned 23 = .ok (.iadd, 1) := by decide +kernel
theorem dX3_countPinned_24 : decode cX3_countPinned 24 = .ok (.istore_n 2, 1) := by decide +kernel
theorem dX3_countPinned_25 : decode cX3_countPinned 25 = .ok (.iinc 3 1, 3) := by decide +kernel
theorem dX3_countPinned_28 : decode cX3_countPinned 28 = .ok (.goto (-19), 3) := by decide +kernel
theorem dX3_countPinned_31 : decode cX3_countPinned 31 = .ok (.iload_n 2, 1) := by decide +kernel
theorem dX3_countPinned_32 : decode cX3_countPinned 32 = .ok (.ireturn, 1) := by decide +kernel
theorem dX3_addBlock_0 : decode cX3_addBlock 0 = .ok (.iload_n 1, 1) := by decide +kernel
theorem dX3_addBlock_1 : decode cX3_addBlock 1 = .ok (.iconst 1, 1) := by decide +kernel
theorem dX3_addBlock_2 : decode cX3_addBlock 2 = .ok (.if_icmp .lt 9, 3) := by decide +kernel
theorem dX3_addBlock_5 : decode cX3_addBlock 5 = .ok (.iload_n 1, 1) := by decide +kernel
theorem dX3_addBlock_6 : decode cX3_addBlock 6 = .ok (.bipush 9, 2) := by decide +kernel
theorem dX3_addBlock_8 : decode cX3_addBlock 8 = .ok (.if_icmp .le 6, 3) := by decide +kernel
theorem dX3_addBlock_11 : decode cX3_addBlock 11 = .ok (.bipush (-2), 2) := by decide +kernel
theorem dX3_addBlock_13 : decode cX3_addBlock 13 = .ok (.ireturn, 1) := by decide +kernel
theorem dX3_addBlock_14 : decode cX3_addBlock 14 = .ok (.aload_n 0, 1) := by decide +kernel
theorem dX3_addBlock_15 : decode cX3_addBlock 15 = .ok (.iload_n 1, 1) := by decide +kernel
theorem dX3_addBlock_16 : decode cX3_addBlock 16 = .ok (.invokevirtual 64, 3) := by decide +kernel
theorem dX3_addBlock_19 : decode cX3_addBlock 19 = .ok (.istore_n 2, 1) := by decide +kernel
theorem dX3_addBlock_20 : decode cX3_addBlock 20 = .ok (.aload_n 0, 1) := by decide +kernel
theorem dX3_addBlock_21 : decode cX3_addBlock 21 = .ok (.invokevirtual 53, 3) := by decide +kernel
theorem dX3_addBlock_24 : decode cX3_addBlock 24 = .ok (.istore_n 3, 1) := by decide +kernel
theorem dX3_addBlock_25 : decode cX3_addBlock 25 = .ok (.aload_n 0, 1) := by decide +kernel
theorem dX3_addBlock_26 : decode cX3_addBlock 26 = .ok (.getfield 9, 3) := by decide +kernel
theorem dX3_addBlock_29 : decode cX3_addBlock 29 = .ok (.bipush 16, 2) := by decide +kernel
theorem dX3_addBlock_31 : decode cX3_addBlock 31 = .ok (.invokestatic 49, 3) := by decide +kernel
theorem dX3_addBlock_34 : decode cX3_addBlock 34 = .ok (.istore 4, 2) := by decide +kernel
theorem dX3_addBlock_36 : decode cX3_addBlock 36 = .ok (.iload_n 3, 1) := by decide +kernel
theorem dX3_addBlock_37 : decode cX3_addBlock 37 = .ok (.bipush 24, 2) := by decide +kernel
theorem dX3_addBlock_39 : decode cX3_addBlock 39 = .ok (.if_icmp .ge 16, 3) := by decide +kernel
theorem dX3_addBlock_42 : decode cX3_addBlock 42 = .ok (.iload_n 2, 1) := by decide +kernel
theorem dX3_addBlock_43 : decode cX3_addBlock 43 = .ok (.iconst (-1), 1) := by decide +kernel
theorem dX3_addBlock_44 : decode cX3_addBlock 44 = .ok (.if_icmp .eq 11, 3) := by decide +kernel
theorem dX3_addBlock_47 : decode cX3_addBlock 47 = .ok (.iload 4, 2) := by decide +kernel
theorem dX3_addBlock_49 : decode cX3_addBlock 49 = .ok (.sipush 999, 3) := by decide +kernel
theorem dX3_addBlock_52 : decode cX3_addBlock 52 = .ok (.if_icmp .le 6, 3) := by decide +kernel
theorem dX3_addBlock_55 : decode cX3_addBlock 55 = .ok (.bipush (-3), 2) := by decide +kernel
theorem dX3_addBlock_57 : decode cX3_addBlock 57 = .ok (.ireturn, 1) := by decide +kernel
theorem dX3_addBlock_58 : decode cX3_addBlock 58 = .ok (.aload_n 0, 1) := by decide +kernel
theorem dX3_addBlock_59 : decode cX3_addBlock 59 = .ok (.getfield 18, 3) := by decide +kernel
theorem dX3_addBlock_62 : decode cX3_addBlock 62 = .ok (.iload_n 3, 1) := by decide +kernel
theorem dX3_addBlock_63 : decode cX3_addBlock 63 = .ok (.iload 4, 2) := by decide +kernel
theorem dX3_addBlock_65 : decode cX3_addBlock 65 = .ok (.invokestatic 67, 3) := by decide +kernel
theorem dX3_addBlock_68 : decode cX3_addBlock 68 = .ok (.aload_n 0, 1) := by decide +kernel
theorem dX3_addBlock_69 : decode cX3_addBlock 69 = .ok (.getfield 21, 3) := by decide +kernel
theorem dX3_addBlock_72 : decode cX3_addBlock 72 = .ok (.iload_n 3, 1) := by decide +kernel
theorem dX3_addBlock_73 : decode cX3_addBlock 73 = .ok (.iload_n 1, 1) := by decide +kernel
theorem dX3_addBlock_74 : decode cX3_addBlock 74 = .ok (.invokestatic 67, 3) := by decide +kernel
theorem dX3_addBlock_77 : decode cX3_addBlock 77 = .ok (.aload_n 0, 1) := by decide +kernel
theorem dX3_addBlock_78 : decode cX3_addBlock 78 = .ok (.getfield 24, 3) := by decide +kernel
theorem dX3_addBlock_81 : decode cX3_addBlock 81 = .ok (.iload_n 3, 1) := by decide +kernel
theorem dX3_addBlock_82 : decode cX3_addBlock 82 = .ok (.sipush 1000, 3) := by decide +kernel
theorem dX3_addBlock_85 : decode cX3_addBlock 85 = .ok (.invokestatic 67, 3) := by decide +kernel
theorem dX3_addBlock_88 : decode cX3_addBlock 88 = .ok (.aload_n 0, 1) := by decide +kernel
theorem dX3_addBlock_89 : decode cX3_addBlock 89 = .ok (.getfield 27, 3) := by decide +kernel
theorem dX3_addBlock_92 : decode cX3_addBlock 92 = .ok (.iload_n 3, 1) := by decide +kernel
theorem dX3_addBlock_93 : decode cX3_addBlock 93 = .ok (.iload_n 2, 1) := by decide +kernel
theorem dX3_addBlock_94 : decode cX3_addBlock 94 = .ok (.invokestatic 67, 3) := by decide +kernel
theorem dX3_addBlock_97 : decode cX3_addBlock 97 = .ok (.aload_n 0, 1) := by decide +kernel
theorem dX3_addBlock_98 : decode cX3_addBlock 98 = .ok (.getfield 30, 3) := by decide +kernel
theorem dX3_addBlock_101 : decode cX3_addBlock 101 = .ok (.iload_n 3, 1) := by decide +kernel
theorem dX3_addBlock_102 : decode cX3_addBlock 102 = .ok (.iconst 0, 1) := by decide +kernel
theorem dX3_addBlock_103 : decode cX3_addBlock 103 = .ok (.invokestatic 67, 3) := by decide +kernel
theorem dX3_addBlock_106 : decode cX3_addBlock 106 = .ok (.aload_n 0, 1) := by decide +kernel
theorem dX3_addBlock_107 : decode cX3_addBlock 107 = .ok (.getfield 33, 3) := by decide +kernel
theorem dX3_addBlock_110 : decode cX3_addBlock 110 = .ok (.iload_n 3, 1) := by decide +kernel
theorem dX3_addBlock_111 : decode cX3_addBlock 111 = .ok (.iconst 0, 1) := by decide +kernel
theorem dX3_addBlock_112 : decode cX3_addBlock 112 = .ok (.invokestatic 67, 3) := by decide +kernel
theorem dX3_addBlock_115 : decode cX3_addBlock 115 = .ok (.aload_n 0, 1) := by decide +kernel
theorem dX3_addBlock_116 : decode cX3_addBlock 116 = .ok (.getfield 36, 3) := by decide +kernel
theorem dX3_addBlock_119 : decode cX3_addBlock 119 = .ok (.iload_n 3, 1) := by decide +kernel
theorem dX3_addBlock_120 : decode cX3_addBlock 120 = .ok (.iconst 0, 1) := by decide +kernel
theorem dX3_addBlock_121 : decode cX3_addBlock 121 = .ok (.invokestatic 67, 3) := by decide +kernel
theorem dX3_addBlock_124 : decode cX3_addBlock 124 = .ok (.aload_n 0, 1) := by decide +kernel
theorem dX3_addBlock_125 : decode cX3_addBlock 125 = .ok (.getfield 39, 3) := by decide +kernel
theorem dX3_addBlock_128 : decode cX3_addBlock 128 = .ok (.iload_n 3, 1) := by decide +kernel
theorem dX3_addBlock_129 : decode cX3_addBlock 129 = .ok (.iconst 0, 1) := by decide +kernel
theorem dX3_addBlock_130 : decode cX3_addBlock 130 = .ok (.invokestatic 67, 3) := by decide +kernel
theorem dX3_addBlock_133 : decode cX3_addBlock 133 = .ok (.aload_n 0, 1) := by decide +kernel
theorem dX3_addBlock_134 : decode cX3_addBlock 134 = .ok (.getfield 15, 3) := by decide +kernel
theorem dX3_addBlock_137 : decode cX3_addBlock 137 = .ok (.iload_n 2, 1) := by decide +kernel
theorem dX3_addBlock_138 : decode cX3_addBlock 138 = .ok (.iload_n 1, 1) := by decide +kernel
theorem dX3_addBlock_139 : decode cX3_addBlock 139 = .ok (.invokestatic 71, 3) := by decide +kernel
theorem dX3_addBlock_142 : decode cX3_addBlock 142 = .ok (.aload_n 0, 1) := by decide +kernel
theorem dX3_addBlock_143 : decode cX3_addBlock 143 = .ok (.getfield 9, 3) := by decide +kernel
theorem dX3_addBlock_146 : decode cX3_addBlock 146 = .ok (.bipush 15, 2) := by decide +kernel
theorem dX3_addBlock_148 : decode cX3_addBlock 148 = .ok (.iconst 1, 1) := by decide +kernel
theorem dX3_addBlock_149 : decode cX3_addBlock 149 = .ok (.invokestatic 71, 3) := by decide +kernel
theorem dX3_addBlock_152 : decode cX3_addBlock 152 = .ok (.aload_n 0, 1) := by decide +kernel
theorem dX3_addBlock_153 : decode cX3_addBlock 153 = .ok (.getfield 9, 3) := by decide +kernel
theorem dX3_addBlock_156 : decode cX3_addBlock 156 = .ok (.bipush 16, 2) := by decide +kernel
theorem dX3_addBlock_158 : decode cX3_addBlock 158 = .ok (.iconst 1, 1) := by decide +kernel
theorem dX3_addBlock_159 : decode cX3_addBlock 159 = .ok (.invokestatic 71, 3) := by decide +kernel
theorem dX3_addBlock_162 : decode cX3_addBlock 162 = .ok (.iload 4, 2) := by decide +kernel
theorem dX3_addBlock_164 : decode cX3_addBlock 164 = .ok (.ireturn, 1) := by decide +kernel
theorem dX3_fastestWithRoom_0 : decode cX3_fastestWithRoom 0 = .ok (.iconst 0, 1) := by decide +kernel
theorem dX3_fastestWithRoom_1 : decode cX3_fastestWithRoom 1 = .ok (.istore_n 2, 1) := by decide +kernel
theorem dX3_fastestWithRoom_2 : decode cX3_fastestWithRoom 2 = .ok (.iload_n 2, 1) := by decide +kernel
theorem dX3_fastestWithRoom_3 : decode cX3_fastestWithRoom 3 = .ok (.iconst 3, 1) := by decide +kernel
theorem dX3_fastestWithRoom_4 : decode cX3_fastestWithRoom 4 = .ok (.if_icmp .ge 20, 3) := by decide +kernel
theorem dX3_fastestWithRoom_7 : decode cX3_fastestWithRoom 7 = .ok (.aload_n 0, 1) := by decide +kernel
theorem dX3_fastestWithRoom_8 : decode cX3_fastestWithRoom 8 = .ok (.iload_n 2, 1) := by decide +kernel
theorem dX3_fastestWithRoom_9 : decode cX3_fastestWithRoom 9 = .ok (.iload_n 1, 1) := by decide +kernel
theorem dX3_fastestWithRoom_10 : decode cX3_fastestWithRoom 10 = .ok (.invokevirtual 74, 3) := by decide +kernel
theorem dX3_fastestWithRoom_13 : decode cX3_fastestWithRoom 13 = .ok (.ifCond .eq 5, 3) := by decide +kernel
theorem dX3_fastestWithRoom_16 : decode cX3_fastestWithRoom 16 = .ok (.iload_n 2, 1) := by decide +kernel
theorem dX3_fastestWithRoom_17 : decode cX3_fastestWithRoom 17 = .ok (.ireturn, 1) := by decide +kernel
theorem dX3_fastestWithRoom_18 : decode cX3_fastestWithRoom 18 = .ok (.iinc 2 1, 3) := by decide +kernel
theorem dX3_fastestWithRoom_21 : decode cX3_fastestWithRoom 21 = .ok (.goto (-19), 3) := by decide +kernel
theorem dX3_fastestWithRoom_24 : decode cX3_fastestWithRoom 24 = .ok (.iconst (-1), 1) := by decide +kernel
theorem dX3_fastestWithRoom_25 : decode cX3_fastestWithRoom 25 = .ok (.ireturn, 1) := by decide +kernel
theorem dX3_dropBlock_0 : decode cX3_dropBlock 0 = .ok (.aload_n 0, 1) := by decide +kernel
theorem dX3_dropBlock_1 : decode cX3_dropBlock 1 = .ok (.iload_n 1, 1) := by decide +kernel
theorem dX3_dropBlock_2 : decode cX3_dropBlock 2 = .ok (.invokevirtual 78, 3) := by decide +kernel
theorem dX3_dropBlock_5 : decode cX3_dropBlock 5 = .ok (.istore_n 2, 1) := by decide +kernel
theorem dX3_dropBlock_6 : decode cX3_dropBlock 6 = .ok (.iload_n 2, 1) := by decide +kernel
theorem dX3_dropBlock_7 : decode cX3_dropBlock 7 = .ok (.iconst (-1), 1) := by decide +kernel
theorem dX3_dropBlock_8 : decode cX3_dropBlock 8 = .ok (.if_icmp .ne 5, 3) := by decide +kernel
theorem dX3_dropBlock_11 : decode cX3_dropBlock 11 = .ok (.iconst (-1), 1) := by decide +kernel
theorem dX3_dropBlock_12 : decode cX3_dropBlock 12 = .ok (.ireturn, 1) := by decide +kernel
theorem dX3_dropBlock_13 : decode cX3_dropBlock 13 = .ok (.aload_n 0, 1) := by decide +kernel
theorem dX3_dropBlock_14 : decode cX3_dropBlock 14 = .ok (.getfield 27, 3) := by decide +kernel
theorem dX3_dropBlock_17 : decode cX3_dropBlock 17 = .ok (.iload_n 2, 1) := by decide +kernel
theorem dX3_dropBlock_18 : decode cX3_dropBlock 18 = .ok (.invokestatic 49, 3) := by decide +kernel
theorem dX3_dropBlock_21 : decode cX3_dropBlock 21 = .ok (.istore_n 3, 1) := by decide +kernel
theorem dX3_dropBlock_22 : decode cX3_dropBlock 22 = .ok (.aload_n 0, 1) := by decide +kernel
theorem dX3_dropBlock_23 : decode cX3_dropBlock 23 = .ok (.getfield 15, 3) := by decide +kernel
theorem dX3_dropBlock_26 : decode cX3_dropBlock 26 = .ok (.iload_n 3, 1) := by decide +kernel
theorem dX3_dropBlock_27 : decode cX3_dropBlock 27 = .ok (.aload_n 0, 1) := by decide +kernel
theorem dX3_dropBlock_28 : decode cX3_dropBlock 28 = .ok (.getfield 21, 3) := by decide +kernel
theorem dX3_dropBlock_31 : decode cX3_dropBlock 31 = .ok (.iload_n 2, 1) := by decide +kernel
theorem dX3_dropBlock_32 : decode cX3_dropBlock 32 = .ok (.invokestatic 49, 3) := by decide +kernel
theorem dX3_dropBlock_35 : decode cX3_dropBlock 35 = .ok (.ineg, 1) := by decide +kernel
theorem dX3_dropBlock_36 : decode cX3_dropBlock 36 = .ok (.invokestatic 71, 3) := by decide +kernel
theorem dX3_dropBlock_39 : decode cX3_dropBlock 39 = .ok (.aload_n 0, 1) := by decide +kernel
theorem dX3_dropBlock_40 : decode cX3_dropBlock 40 = .ok (.getfield 9, 3) := by decide +kernel
theorem dX3_dropBlock_43 : decode cX3_dropBlock 43 = .ok (.bipush 15, 2) := by decide +kernel
theorem dX3_dropBlock_45 : decode cX3_dropBlock 45 = .ok (.iconst (-1), 1) := by decide +kernel
theorem dX3_dropBlock_46 : decode cX3_dropBlock 46 = .ok (.invokestatic 71, 3) := by decide +kernel
theorem dX3_dropBlock_49 : decode cX3_dropBlock 49 = .ok (.aload_n 0, 1) := by decide +kernel
theorem dX3_dropBlock_50 : decode cX3_dropBlock 50 = .ok (.getfield 18, 3) := by decide +kernel
theorem dX3_dropBlock_53 : decode cX3_dropBlock 53 = .ok (.iload_n 2, 1) := by decide +kernel
theorem dX3_dropBlock_54 : decode cX3_dropBlock 54 = .ok (.invokestatic 81, 3) := by decide +kernel
theorem dX3_dropBlock_57 : decode cX3_dropBlock 57 = .ok (.aload_n 0, 1) := by decide +kernel
theorem dX3_dropBlock_58 : decode cX3_dropBlock 58 = .ok (.getfield 21, 3) := by decide +kernel
theorem dX3_dropBlock_61 : decode cX3_dropBlock 61 = .ok (.iload_n 2, 1) := by decide +kernel
theorem dX3_dropBlock_62 : decode cX3_dropBlock 62 = .ok (.invokestatic 81, 3) := by decide +kernel
theorem dX3_dropBlock_65 : decode cX3_dropBlock 65 = .ok (.aload_n 0, 1) := by decide +kernel
theorem dX3_dropBlock_66 : decode cX3_dropBlock 66 = .ok (.getfield 24, 3) := by decide +kernel
theorem dX3_dropBlock_69 : decode cX3_dropBlock 69 = .ok (.iload_n 2, 1) := by decide +kernel
theorem dX3_dropBlock_70 : decode cX3_dropBlock 70 = .ok (.invokestatic 81, 3) := by decide +kernel
theorem dX3_dropBlock_73 : decode cX3_dropBlock 73 = .ok (.aload_n 0, 1) := by decide +kernel
theorem dX3_dropBlock_74 : decode cX3_dropBlock 74 = .ok (.getfield 27, 3) := by decide +kernel
theorem dX3_dropBlock_77 : decode cX3_dropBlock 77 = .ok (.iload_n 2, 1) := by decide +kernel
theorem dX3_dropBlock_78 : decode cX3_dropBlock 78 = .ok (.invokestatic 81, 3) := by decide +kernel
theorem dX3_dropBlock_81 : decode cX3_dropBlock 81 = .ok (.aload_n 0, 1) := by decide +kernel
theorem dX3_dropBlock_82 : decode cX3_dropBlock 82 = .ok (.getfield 30, 3) := by decide +kernel
theorem dX3_dropBlock_85 : decode cX3_dropBlock 85 = .ok (.iload_n 2, 1) := by decide +kernel
theorem dX3_dropBlock_86 : decode cX3_dropBlock 86 = .ok (.invokestatic 81, 3) := by decide +kernel
theorem dX3_dropBlock_89 : decode cX3_dropBlock 89 = .ok (.aload_n 0, 1) := by decide +kernel
theorem dX3_dropBlock_90 : decode cX3_dropBlock 90 = .ok (.getfield 33, 3) := by decide +kernel
theorem dX3_dropBlock_93 : decode cX3_dropBlock 93 = .ok (.iload_n 2, 1) := by decide +kernel
theorem dX3_dropBlock_94 : decode cX3_dropBlock 94 = .ok (.invokestatic 81, 3) := by decide +kernel
theorem dX3_dropBlock_97 : decode cX3_dropBlock 97 = .ok (.aload_n 0, 1) := by decide +kernel
theorem dX3_dropBlock_98 : decode cX3_dropBlock 98 = .ok (.getfield 36, 3) := by decide +kernel
theorem dX3_dropBlock_101 : decode cX3_dropBlock 101 = .ok (.iload_n 2, 1) := by decide +kernel
theorem dX3_dropBlock_102 : decode cX3_dropBlock 102 = .ok (.invokestatic 81, 3) := by decide +kernel
theorem dX3_dropBlock_105 : decode cX3_dropBlock 105 = .ok (.aload_n 0, 1) := by decide +kernel
theorem dX3_dropBlock_106 : decode cX3_dropBlock 106 = .ok (.getfield 39, 3) := by decide +kernel
theorem dX3_dropBlock_109 : decode cX3_dropBlock 109 = .ok (.iload_n 2, 1) := by decide +kernel
theorem dX3_dropBlock_110 : decode cX3_dropBlock 110 = .ok (.invokestatic 81, 3) := by decide +kernel
theorem dX3_dropBlock_113 : decode cX3_dropBlock 113 = .ok (.iload_n 3, 1) := by decide +kernel
theorem dX3_dropBlock_114 : decode cX3_dropBlock 114 = .ok (.ireturn, 1) := by decide +kernel
theorem dX3_readBlock_0 : decode cX3_readBlock 0 = .ok (.aload_n 0, 1) := by decide +kernel
theorem dX3_readBlock_1 : decode cX3_readBlock 1 = .ok (.iload_n 1, 1) := by decide +kernel
theorem dX3_readBlock_2 : decode cX3_readBlock 2 = .ok (.invokevirtual 78, 3) := by decide +kernel
theorem dX3_readBlock_5 : decode cX3_readBlock 5 = .ok (.istore_n 3, 1) := by decide +kernel
theorem dX3_readBlock_6 : decode cX3_readBlock 6 = .ok (.iload_n 3, 1) := by decide +kernel
theorem dX3_readBlock_7 : decode cX3_readBlock 7 = .ok (.iconst (-1), 1) := by decide +kernel
theorem dX3_readBlock_8 : decode cX3_readBlock 8 = .ok (.if_icmp .ne 5, 3) := by decide +kernel
theorem dX3_readBlock_11 : decode cX3_readBlock 11 = .ok (.iconst (-1), 1) := by decide +kernel
theorem dX3_readBlock_12 : decode cX3_readBlock 12 = .ok (.ireturn, 1) := by decide +kernel
theorem dX3_readBlock_13 : decode cX3_readBlock 13 = .ok (.iload_n 2, 1) := by decide +kernel
theorem dX3_readBlock_14 : decode cX3_readBlock 14 = .ok (.iconst 1, 1) := by decide +kernel
theorem dX3_readBlock_15 : decode cX3_readBlock 15 = .ok (.if_icmp .lt 9, 3) := by decide +kernel
theorem dX3_readBlock_18 : decode cX3_readBlock 18 = .ok (.iload_n 2, 1) := by decide +kernel
theorem dX3_readBlock_19 : decode cX3_readBlock 19 = .ok (.bipush 99, 2) := by decide +kernel
theorem dX3_readBlock_21 : decode cX3_readBlock 21 = .ok (.if_icmp .le 6, 3) := by decide +kernel
theorem dX3_readBlock_24 : decode cX3_readBlock 24 = .ok (.bipush (-2), 2) := by decide +kernel
theorem dX3_readBlock_26 : decode cX3_readBlock 26 = .ok (.ireturn, 1) := by decide +kernel
theorem dX3_readBlock_27 : decode cX3_readBlock 27 = .ok (.iconst 0, 1) := by decide +kernel
theorem dX3_readBlock_28 : decode cX3_readBlock 28 = .ok (.istore 4, 2) := by decide +kernel
theorem dX3_readBlock_30 : decode cX3_readBlock 30 = .ok (.iconst 0, 1) := by decide +kernel
theorem dX3_readBlock_31 : decode cX3_readBlock 31 = .ok (.istore 5, 2) := by decide +kernel
theorem dX3_readBlock_33 : decode cX3_readBlock 33 = .ok (.iload 5, 2) := by decide +kernel
theorem dX3_readBlock_35 : decode cX3_readBlock 35 = .ok (.iload_n 2, 1) := by decide +kernel
theorem dX3_readBlock_36 : decode cX3_readBlock 36 = .ok (.if_icmp .ge 19, 3) := by decide +kernel
theorem dX3_readBlock_39 : decode cX3_readBlock 39 = .ok (.iload 4, 2) := by decide +kernel
theorem dX3_readBlock_41 : decode cX3_readBlock 41 = .ok (.aload_n 0, 1) := by decide +kernel
theorem dX3_readBlock_42 : decode cX3_readBlock 42 = .ok (.iload_n 3, 1) := by decide +kernel
theorem dX3_readBlock_43 : decode cX3_readBlock 43 = .ok (.invokevirtual 85, 3) := by decide +kernel
theorem dX3_readBlock_46 : decode cX3_readBlock 46 = .ok (.iadd, 1) := by decide +kernel
theorem dX3_readBlock_47 : decode cX3_readBlock 47 = .ok (.istore 4, 2) := by decide +kernel
theorem dX3_readBlock_49 : decode cX3_readBlock 49 = .ok (.iinc 5 1, 3) := by decide +kernel
theorem dX3_readBlock_52 : decode cX3_readBlock 52 = .ok (.goto (-19), 3) := by decide +kernel
theorem dX3_readBlock_55 : decode cX3_readBlock 55 = .ok (.iload 4, 2) := by decide +kernel
theorem dX3_readBlock_57 : decode cX3_readBlock 57 = .ok (.ireturn, 1) := by decide +kernel
theorem dX3_readOnce_0 : decode cX3_readOnce 0 = .ok (.aload_n 0, 1) := by decide +kernel
theorem dX3_readOnce_1 : decode cX3_readOnce 1 = .ok (.getfield 27, 3) := by decide +kernel
theorem dX3_readOnce_4 : decode cX3_readOnce 4 = .ok (.iload_n 1, 1) := by decide +kernel
theorem dX3_readOnce_5 : decode cX3_readOnce 5 = .ok (.invokestatic 49, 3) := by decide +kernel
theorem dX3_readOnce_8 : decode cX3_readOnce 8 = .ok (.istore_n 2, 1) := by decide +kernel
theorem dX3_readOnce_9 : decode cX3_readOnce 9 = .ok (.aload_n 0, 1) := by decide +kernel
theorem dX3_readOnce_10 : decode cX3_readOnce 10 = .ok (.getfield 21, 3) := by decide +kernel
theorem dX3_readOnce_13 : decode cX3_readOnce 13 = .ok (.iload_n 1, 1) := by decide +kernel
theorem dX3_readOnce_14 : decode cX3_readOnce 14 = .ok (.invokestatic 49, 3) := by decide +kernel
theorem dX3_readOnce_17 : decode cX3_readOnce 17 = .ok (.aload_n 0, 1) := by decide +kernel
theorem dX3_readOnce_18 : decode cX3_readOnce 18 = .ok (.getfield 9, 3) := by decide +kernel
theorem dX3_readOnce_21 : decode cX3_readOnce 21 = .ok (.bipush 12, 2) := by decide +kernel
theorem dX3_readOnce_23 : decode cX3_readOnce 23 = .ok (.iload_n 2, 1) := by decide +kernel
theorem dX3_readOnce_24 : decode cX3_readOnce 24 = .ok (.iadd, 1) := by decide +kernel
theorem dX3_readOnce_25 : decode cX3_readOnce 25 = .ok (.invokestatic 49, 3) := by decide +kernel
theorem dX3_readOnce_28 : decode cX3_readOnce 28 = .ok (.imul, 1) := by decide +kernel
theorem dX3_readOnce_29 : decode cX3_readOnce 29 = .ok (.istore_n 3, 1) := by decide +kernel
theorem dX3_readOnce_30 : decode cX3_readOnce 30 = .ok (.aload_n 0, 1) := by decide +kernel
theorem dX3_readOnce_31 : decode cX3_readOnce 31 = .ok (.getfield 9, 3) := by decide +kernel
theorem dX3_readOnce_34 : decode cX3_readOnce 34 = .ok (.bipush 19, 2) := by decide +kernel
theorem dX3_readOnce_36 : decode cX3_readOnce 36 = .ok (.iload_n 3, 1) := by decide +kernel
theorem dX3_readOnce_37 : decode cX3_readOnce 37 = .ok (.invokestatic 71, 3) := by decide +kernel
theorem dX3_readOnce_40 : decode cX3_readOnce 40 = .ok (.aload_n 0, 1) := by decide +kernel
theorem dX3_readOnce_41 : decode cX3_readOnce 41 = .ok (.getfield 36, 3) := by decide +kernel
theorem dX3_readOnce_44 : decode cX3_readOnce 44 = .ok (.iload_n 1, 1) := by decide +kernel
theorem dX3_readOnce_45 : decode cX3_readOnce 45 = .ok (.iconst 1, 1) := by decide +kernel
theorem dX3_readOnce_46 : decode cX3_readOnce 46 = .ok (.invokestatic 71, 3) := by decide +kernel
theorem dX3_readOnce_49 : decode cX3_readOnce 49 = .ok (.aload_n 0, 1) := by decide +kernel
theorem dX3_readOnce_50 : decode cX3_readOnce 50 = .ok (.getfield 24, 3) := by decide +kernel
theorem dX3_readOnce_53 : decode cX3_readOnce 53 = .ok (.iload_n 1, 1) := by decide +kernel
theorem dX3_readOnce_54 : decode cX3_readOnce 54 = .ok (.aload_n 0, 1) := by decide +kernel
theorem dX3_readOnce_55 : decode cX3_readOnce 55 = .ok (.getfield 24, 3) := by decide +kernel
theorem dX3_readOnce_58 : decode cX3_readOnce 58 = .ok (.iload_n 1, 1) := by decide +kernel
theorem dX3_readOnce_59 : decode cX3_readOnce 59 = .ok (.invokestatic 49, 3) := by decide +kernel
theorem dX3_readOnce_62 : decode cX3_readOnce 62 = .ok (.sipush 1000, 3) := by decide +kernel
theorem dX3_readOnce_65 : decode cX3_readOnce 65 = .ok (.iadd, 1) := by decide +kernel
theorem dX3_readOnce_66 : decode cX3_readOnce 66 = .ok (.ldc 88, 2) := by decide +kernel
theorem dX3_readOnce_68 : decode cX3_readOnce 68 = .ok (.invokestatic 89, 3) := by decide +kernel
theorem dX3_readOnce_71 : decode cX3_readOnce 71 = .ok (.invokestatic 67, 3) := by decide +kernel
theorem dX3_readOnce_74 : decode cX3_readOnce 74 = .ok (.iload_n 2, 1) := by decide +kernel
theorem dX3_readOnce_75 : decode cX3_readOnce 75 = .ok (.iconst 2, 1) := by decide +kernel
theorem dX3_readOnce_76 : decode cX3_readOnce 76 = .ok (.if_icmp .ne 13, 3) := by decide +kernel
theorem dX3_readOnce_79 : decode cX3_readOnce 79 = .ok (.iload_n 3, 1) := by decide +kernel
theorem dX3_readOnce_80 : decode cX3_readOnce 80 = .ok (.aload_n 0, 1) := by decide +kernel
theorem dX3_readOnce_81 : decode cX3_readOnce 81 = .ok (.iload_n 1, 1) := by decide +kernel
theorem dX3_readOnce_82 : decode cX3_readOnce 82 = .ok (.invokevirtual 95, 3) := by decide +kernel
theorem dX3_readOnce_85 : decode cX3_readOnce 85 = .ok (.iadd, 1) := by decide +kernel
theorem dX3_readOnce_86 : decode cX3_readOnce 86 = .ok (.goto 4, 3) := by decide +kernel
theorem dX3_readOnce_89 : decode cX3_readOnce 89 = .ok (.iload_n 3, 1) := by decide +kernel
theorem dX3_readOnce_90 : decode cX3_readOnce 90 = .ok (.ireturn, 1) := by decide +kernel
theorem dX3_askBack_0 : decode cX3_askBack 0 = .ok (.aload_n 0, 1) := by decide +kernel
theorem dX3_askBack_1 : decode cX3_askBack 1 = .ok (.getfield 21, 3) := by decide +kernel
theorem dX3_askBack_4 : decode cX3_askBack 4 = .ok (.iload_n 1, 1) := by decide +kernel
theorem dX3_askBack_5 : decode cX3_askBack 5 = .ok (.invokestatic 49, 3) := by decide +kernel
theorem dX3_askBack_8 : decode cX3_askBack 8 = .ok (.istore_n 2, 1) := by decide +kernel
theorem dX3_askBack_9 : decode cX3_askBack 9 = .ok (.iload_n 2, 1) := by decide +kernel
theorem dX3_askBack_10 : decode cX3_askBack 10 = .ok (.aload_n 0, 1) := by decide +kernel
theorem dX3_askBack_11 : decode cX3_askBack 11 = .ok (.getfield 9, 3) := by decide +kernel
theorem dX3_askBack_14 : decode cX3_askBack 14 = .ok (.iconst 5, 1) := by decide +kernel
theorem dX3_askBack_15 : decode cX3_askBack 15 = .ok (.invokestatic 49, 3) := by decide +kernel
theorem dX3_askBack_18 : decode cX3_askBack 18 = .ok (.imul, 1) := by decide +kernel
theorem dX3_askBack_19 : decode cX3_askBack 19 = .ok (.aload_n 0, 1) := by decide +kernel
theorem dX3_askBack_20 : decode cX3_askBack 20 = .ok (.getfield 33, 3) := by decide +kernel
theorem dX3_askBack_23 : decode cX3_askBack 23 = .ok (.iload_n 1, 1) := by decide +kernel
theorem dX3_askBack_24 : decode cX3_askBack 24 = .ok (.invokestatic 49, 3) := by decide +kernel
theorem dX3_askBack_27 : decode cX3_askBack 27 = .ok (.imul, 1) := by decide +kernel
theorem dX3_askBack_28 : decode cX3_askBack 28 = .ok (.istore_n 3, 1) := by decide +kernel
theorem dX3_askBack_29 : decode cX3_askBack 29 = .ok (.aload_n 0, 1) := by decide +kernel
theorem dX3_askBack_30 : decode cX3_askBack 30 = .ok (.getfield 9, 3) := by decide +kernel
theorem dX3_askBack_33 : decode cX3_askBack 33 = .ok (.bipush 20, 2) := by decide +kernel
theorem dX3_askBack_35 : decode cX3_askBack 35 = .ok (.iload_n 3, 1) := by decide +kernel
theorem dX3_askBack_36 : decode cX3_askBack 36 = .ok (.invokestatic 71, 3) := by decide +kernel
theorem dX3_askBack_39 : decode cX3_askBack 39 = .ok (.aload_n 0, 1) := by decide +kernel
theorem dX3_askBack_40 : decode cX3_askBack 40 = .ok (.getfield 9, 3) := by decide +kernel
theorem dX3_askBack_43 : decode cX3_askBack 43 = .ok (.bipush 22, 2) := by decide +kernel
theorem dX3_askBack_45 : decode cX3_askBack 45 = .ok (.iconst 1, 1) := by decide +kernel
theorem dX3_askBack_46 : decode cX3_askBack 46 = .ok (.invokestatic 71, 3) := by decide +kernel
theorem dX3_askBack_49 : decode cX3_askBack 49 = .ok (.aload_n 0, 1) := by decide +kernel
theorem dX3_askBack_50 : decode cX3_askBack 50 = .ok (.getfield 33, 3) := by decide +kernel
theorem dX3_askBack_53 : decode cX3_askBack 53 = .ok (.iload_n 1, 1) := by decide +kernel
theorem dX3_askBack_54 : decode cX3_askBack 54 = .ok (.iconst 0, 1) := by decide +kernel
theorem dX3_askBack_55 : decode cX3_askBack 55 = .ok (.invokestatic 67, 3) := by decide +kernel
theorem dX3_askBack_58 : decode cX3_askBack 58 = .ok (.aload_n 0, 1) := by decide +kernel
theorem dX3_askBack_59 : decode cX3_askBack 59 = .ok (.iconst 0, 1) := by decide +kernel
theorem dX3_askBack_60 : decode cX3_askBack 60 = .ok (.iload_n 2, 1) := by decide +kernel
theorem dX3_askBack_61 : decode cX3_askBack 61 = .ok (.invokevirtual 74, 3) := by decide +kernel
theorem dX3_askBack_64 : decode cX3_askBack 64 = .ok (.ifCond .eq 12, 3) := by decide +kernel
theorem dX3_askBack_67 : decode cX3_askBack 67 = .ok (.aload_n 0, 1) := by decide +kernel
theorem dX3_askBack_68 : decode cX3_askBack 68 = .ok (.iload_n 1, 1) := by decide +kernel
theorem dX3_askBack_69 : decode cX3_askBack 69 = .ok (.iconst 0, 1) := by decide +kernel
theorem dX3_askBack_70 : decode cX3_askBack 70 = .ok (.invokevirtual 98, 3) := by decide +kernel
theorem dX3_askBack_73 : decode cX3_askBack 73 = .ok (.goto 18, 3) := by decide +kernel
theorem dX3_askBack_76 : decode cX3_askBack 76 = .ok (.aload_n 0, 1) := by decide +kernel
theorem dX3_askBack_77 : decode cX3_askBack 77 = .ok (.iconst 1, 1) := by decide +kernel
theorem dX3_askBack_78 : decode cX3_askBack 78 = .ok (.iload_n 2, 1) := by decide +kernel
theorem dX3_askBack_79 : decode cX3_askBack 79 = .ok (.invokevirtual 74, 3) := by decide +kernel
theorem dX3_askBack_82 : decode cX3_askBack 82 = .ok (.ifCond .eq 9, 3) := by decide +kernel
theorem dX3_askBack_85 : decode cX3_askBack 85 = .ok (.aload_n 0, 1) := by decide +kernel
theorem dX3_askBack_86 : decode cX3_askBack 86 = .ok (.iload_n 1, 1) := by decide +kernel
theorem dX3_askBack_87 : decode cX3_askBack 87 = .ok (.iconst 1, 1) := by decide +kernel
theorem dX3_askBack_88 : decode cX3_askBack 88 = .ok (.invokevirtual 98, 3) := by decide +kernel
theorem dX3_askBack_91 : decode cX3_askBack 91 = .ok (.iload_n 3, 1) := by decide +kernel
theorem dX3_askBack_92 : decode cX3_askBack 92 = .ok (.ireturn, 1) := by decide +kernel
theorem dX3_moveTo_0 : decode cX3_moveTo 0 = .ok (.aload_n 0, 1) := by decide +kernel
theorem dX3_moveTo_1 : decode cX3_moveTo 1 = .ok (.getfield 21, 3) := by decide +kernel
theorem dX3_moveTo_4 : decode cX3_moveTo 4 = .ok (.iload_n 1, 1) := by decide +kernel
theorem dX3_moveTo_5 : decode cX3_moveTo 5 = .ok (.invokestatic 49, 3) := by decide +kernel
theorem dX3_moveTo_8 : decode cX3_moveTo 8 = .ok (.istore_n 3, 1) := by decide +kernel
theorem dX3_moveTo_9 : decode cX3_moveTo 9 = .ok (.aload_n 0, 1) := by decide +kernel
theorem dX3_moveTo_10 : decode cX3_moveTo 10 = .ok (.getfield 15, 3) := by decide +kernel
theorem dX3_moveTo_13 : decode cX3_moveTo 13 = .ok (.aload_n 0, 1) := by decide +kernel
theorem dX3_moveTo_14 : decode cX3_moveTo 14 = .ok (.getfield 27, 3) := by decide +kernel
theorem dX3_moveTo_17 : decode cX3_moveTo 17 = .ok (.iload_n 1, 1) := by decide +kernel
theorem dX3_moveTo_18 : decode cX3_moveTo 18 = .ok (.invokestatic 49, 3) := by decide +kernel
theorem dX3_moveTo_21 : decode cX3_moveTo 21 = .ok (.iload_n 3, 1) := by decide +kernel
theorem dX3_moveTo_22 : decode cX3_moveTo 22 = .ok (.ineg, 1) := by decide +kernel
theorem dX3_moveTo_23 : decode cX3_moveTo 23 = .ok (.invokestatic 71, 3) := by decide +kernel
theorem dX3_moveTo_26 : decode cX3_moveTo 26 = .ok (.aload_n 0, 1) := by decide +kernel
theorem dX3_moveTo_27 : decode cX3_moveTo 27 = .ok (.getfield 15, 3) := by decide +kernel
theorem dX3_moveTo_30 : decode cX3_moveTo 30 = .ok (.iload_n 2, 1) := by decide +kernel
theorem dX3_moveTo_31 : decode cX3_moveTo 31 = .ok (.iload_n 3, 1) := by decide +kernel
theorem dX3_moveTo_32 : decode cX3_moveTo 32 = .ok (.invokestatic 71, 3) := by decide +kernel
theorem dX3_moveTo_35 : decode cX3_moveTo 35 = .ok (.aload_n 0, 1) := by decide +kernel
theorem dX3_moveTo_36 : decode cX3_moveTo 36 = .ok (.getfield 27, 3) := by decide +kernel
theorem dX3_moveTo_39 : decode cX3_moveTo 39 = .ok (.iload_n 1, 1) := by decide +kernel
theorem dX3_moveTo_40 : decode cX3_moveTo 40 = .ok (.iload_n 2, 1) := by decide +kernel
theorem dX3_moveTo_41 : decode cX3_moveTo 41 = .ok (.invokestatic 67, 3) := by decide +kernel
theorem dX3_moveTo_44 : decode cX3_moveTo 44 = .ok (.aload_n 0, 1) := by decide +kernel
theorem dX3_moveTo_45 : decode cX3_moveTo 45 = .ok (.getfield 39, 3) := by decide +kernel
theorem dX3_moveTo_48 : decode cX3_moveTo 48 = .ok (.iload_n 1, 1) := by decide +kernel
theorem dX3_moveTo_49 : decode cX3_moveTo 49 = .ok (.iconst 1, 1) := by decide +kernel
theorem dX3_moveTo_50 : decode cX3_moveTo 50 = .ok (.invokestatic 71, 3) := by decide +kernel
theorem dX3_moveTo_53 : decode cX3_moveTo 53 = .ok (.return_, 1) := by decide +kernel
theorem dX3_payNight_0 : decode cX3_payNight 0 = .ok (.aload_n 0, 1) := by decide +kernel
theorem dX3_payNight_1 : decode cX3_payNight 1 = .ok (.getfield 9, 3) := by decide +kernel
theorem dX3_payNight_4 : decode cX3_payNight 4 = .ok (.bipush 17, 2) := by decide +kernel
theorem dX3_payNight_6 : decode cX3_payNight 6 = .ok (.iconst 1, 1) := by decide +kernel
theorem dX3_payNight_7 : decode cX3_payNight 7 = .ok (.invokestatic 71, 3) := by decide +kernel
theorem dX3_payNight_10 : decode cX3_payNight 10 = .ok (.iconst 0, 1) := by decide +kernel
theorem dX3_payNight_11 : decode cX3_payNight 11 = .ok (.istore_n 1, 1) := by decide +kernel
theorem dX3_payNight_12 : decode cX3_payNight 12 = .ok (.iload_n 1, 1) := by decide +kernel
theorem dX3_payNight_13 : decode cX3_payNight 13 = .ok (.iconst 3, 1) := by decide +kernel
theorem dX3_payNight_14 : decode cX3_payNight 14 = .ok (.if_icmp .ge 23, 3) := by decide +kernel
theorem dX3_payNight_17 : decode cX3_payNight 17 = .ok (.aload_n 0, 1) := by decide +kernel
theorem dX3_payNight_18 : decode cX3_payNight 18 = .ok (.getfield 9, 3) := by decide +kernel
theorem dX3_payNight_21 : decode cX3_payNight 21 = .ok (.bipush 18, 2) := by decide +kernel
theorem dX3_payNight_23 : decode cX3_payNight 23 = .ok (.aload_n 0, 1) := by decide +kernel
theorem dX3_payNight_24 : decode cX3_payNight 24 = .ok (.iload_n 1, 1) := by decide +kernel
theorem dX3_payNight_25 : decode cX3_payNight 25 = .ok (.invokevirtual 102, 3) := by decide +kernel
theorem dX3_payNight_28 : decode cX3_payNight 28 = .ok (.invokestatic 71, 3) := by decide +kernel
theorem dX3_payNight_31 : decode cX3_payNight 31 = .ok (.iinc 1 1, 3) := by decide +kernel
theorem dX3_payNight_34 : decode cX3_payNight 34 = .ok (.goto (-22), 3) := by decide +kernel
theorem dX3_payNight_37 : decode cX3_payNight 37 = .ok (.return_, 1) := by decide +kernel
theorem dX3_fade_0 : decode cX3_fade 0 = .ok (.aload_n 0, 1) := by decide +kernel
theorem dX3_fade_1 : decode cX3_fade 1 = .ok (.invokevirtual 53, 3) := by decide +kernel
theorem dX3_fade_4 : decode cX3_fade 4 = .ok (.istore_n 1, 1) := by decide +kernel
theorem dX3_fade_5 : decode cX3_fade 5 = .ok (.aload_n 0, 1) := by decide +kernel
theorem dX3_fade_6 : decode cX3_fade 6 = .ok (.getfield 9, 3) := by decide +kernel
theorem dX3_fade_9 : decode cX3_fade 9 = .ok (.iconst 0, 1) := by decide +kernel
theorem dX3_fade_10 : decode cX3_fade 10 = .ok (.invokestatic 49, 3) := by decide +kernel
theorem dX3_fade_13 : decode cX3_fade 13 = .ok (.istore_n 2, 1) := by decide +kernel
theorem dX3_fade_14 : decode cX3_fade 14 = .ok (.iconst 0, 1) := by decide +kernel
theorem dX3_fade_15 : decode cX3_fade 15 = .ok (.istore_n 3, 1) := by decide +kernel
theorem dX3_fade_16 : decode cX3_fade 16 = .ok (.iload_n 3, 1) := by decide +kernel
theorem dX3_fade_17 : decode cX3_fade 17 = .ok (.iload_n 1, 1) := by decide +kernel
theorem dX3_fade_18 : decode cX3_fade 18 = .ok (.if_icmp .ge 52, 3) := by decide +kernel
theorem dX3_fade_21 : decode cX3_fade 21 = .ok (.aload_n 0, 1) := by decide +kernel
theorem dX3_fade_22 : decode cX3_fade 22 = .ok (.getfield 24, 3) := by decide +kernel
theorem dX3_fade_25 : decode cX3_fade 25 = .ok (.iload_n 3, 1) := by decide +kernel
theorem dX3_fade_26 : decode cX3_fade 26 = .ok (.aload_n 0, 1) := by decide +kernel
theorem dX3_fade_27 : decode cX3_fade 27 = .ok (.getfield 24, 3) := by decide +kernel
theorem dX3_fade_30 : decode cX3_fade 30 = .ok (.iload_n 3, 1) := by decide +kernel
theorem dX3_fade_31 : decode cX3_fade 31 = .ok (.invokestatic 49, 3) := by decide +kernel
theorem dX3_fade_34 : decode cX3_fade 34 = .ok (.iload_n 2, 1) := by decide +kernel
theorem dX3_fade_35 : decode cX3_fade 35 = .ok (.imul, 1) := by decide +kernel
theorem dX3_fade_36 : decode cX3_fade 36 = .ok (.bipush 100, 2) := by decide +kernel
theorem dX3_fade_38 : decode cX3_fade 38 = .ok (.idiv, 1) := by decide +kernel
theorem dX3_fade_39 : decode cX3_fade 39 = .ok (.invokestatic 67, 3) := by decide +kernel
theorem dX3_fade_42 : decode cX3_fade 42 = .ok (.aload_n 0, 1) := by decide +kernel
theorem dX3_fade_43 : decode cX3_fade 43 = .ok (.getfield 33, 3) := by decide +kernel
theorem dX3_fade_46 : decode cX3_fade 46 = .ok (.iload_n 3, 1) := by decide +kernel
theorem dX3_fade_47 : decode cX3_fade 47 = .ok (.aload_n 0, 1) := by decide +kernel
theorem dX3_fade_48 : decode cX3_fade 48 = .ok (.getfield 33, 3) := by decide +kernel
theorem dX3_fade_51 : decode cX3_fade 51 = .ok (.iload_n 3, 1) := by decide +kernel
theorem dX3_fade_52 : decode cX3_fade 52 = .ok (.invokestatic 49, 3) := by decide +kernel
theorem dX3_fade_55 : decode cX3_fade 55 = .ok (.iconst 1, 1) := by decide +kernel
theorem dX3_fade_56 : decode cX3_fade 56 = .ok (.isub, 1) := by decide +kernel
theorem dX3_fade_57 : decode cX3_fade 57 = .ok (.iconst 0, 1) := by decide +kernel
theorem dX3_fade_58 : decode cX3_fade 58 = .ok (.invokestatic 105, 3) := by decide +kernel
theorem dX3_fade_61 : decode cX3_fade 61 = .ok (.invokestatic 67, 3) := by decide +kernel
theorem dX3_fade_64 : decode cX3_fade 64 = .ok (.iinc 3 1, 3) := by decide +kernel
theorem dX3_fade_67 : decode cX3_fade 67 = .ok (.goto (-51), 3) := by decide +kernel
theorem dX3_fade_70 : decode cX3_fade 70 = .ok (.return_, 1) := by decide +kernel
theorem dX3_turnPin_0 : decode cX3_turnPin 0 = .ok (.aload_n 0, 1) := by decide +kernel
theorem dX3_turnPin_1 : decode cX3_turnPin 1 = .ok (.iload_n 1, 1) := by decide +kernel
theorem dX3_turnPin_2 : decode cX3_turnPin 2 = .ok (.invokevirtual 78, 3) := by decide +kernel
theorem dX3_turnPin_5 : decode cX3_turnPin 5 = .ok (.istore_n 3, 1) := by decide +kernel
theorem dX3_turnPin_6 : decode cX3_turnPin 6 = .ok (.iload_n 3, 1) := by decide +kernel
theorem dX3_turnPin_7 : decode cX3_turnPin 7 = .ok (.iconst (-1), 1) := by decide +kernel
theorem dX3_turnPin_8 : decode cX3_turnPin 8 = .ok (.if_icmp .ne 5, 3) := by decide +kernel
theorem dX3_turnPin_11 : decode cX3_turnPin 11 = .ok (.iconst (-1), 1) := by decide +kernel
theorem dX3_turnPin_12 : decode cX3_turnPin 12 = .ok (.ireturn, 1) := by decide +kernel
theorem dX3_turnPin_13 : decode cX3_turnPin 13 = .ok (.iload_n 2, 1) := by decide +kernel
theorem dX3_turnPin_14 : decode cX3_turnPin 14 = .ok (.ifCond .eq 7, 3) := by decide +kernel
theorem dX3_turnPin_17 : decode cX3_turnPin 17 = .ok (.iconst 1, 1) := by decide +kernel
theorem dX3_turnPin_18 : decode cX3_turnPin 18 = .ok (.goto 4, 3) := by decide +kernel
theorem dX3_turnPin_21 : decode cX3_turnPin 21 = .ok (.iconst 0, 1) := by decide +kernel
theorem dX3_turnPin_22 : decode cX3_turnPin 22 = .ok (.istore 4, 2) := by decide +kernel
theorem dX3_turnPin_24 : decode cX3_turnPin 24 = .ok (.aload_n 0, 1) := by decide +kernel
theorem dX3_turnPin_25 : decode cX3_turnPin 25 = .ok (.getfield 30, 3) := by decide +kernel
theorem dX3_turnPin_28 : decode cX3_turnPin 28 = .ok (.iload_n 3, 1) := by decide +kernel
theorem dX3_turnPin_29 : decode cX3_turnPin 29 = .ok (.invokestatic 49, 3) := by decide +kernel
theorem dX3_turnPin_32 : decode cX3_turnPin 32 = .ok (.iload 4, 2) := by decide +kernel
theorem dX3_turnPin_34 : decode cX3_turnPin 34 = .ok (.if_icmp .ne 6, 3) := by decide +kernel
theorem dX3_turnPin_37 : decode cX3_turnPin 37 = .ok (.bipush (-5), 2) := by decide +kernel
theorem dX3_turnPin_39 : decode cX3_turnPin 39 = .ok (.ireturn, 1) := by decide +kernel
theorem dX3_turnPin_40 : decode cX3_turnPin 40 = .ok (.aload_n 0, 1) := by decide +kernel
theorem dX3_turnPin_41 : decode cX3_turnPin 41 = .ok (.getfield 30, 3) := by decide +kernel
theorem dX3_turnPin_44 : decode cX3_turnPin 44 = .ok (.iload_n 3, 1) := by decide +kernel
theorem dX3_turnPin_45 : decode cX3_turnPin 45 = .ok (.iload 4, 2) := by decide +kernel
theorem dX3_turnPin_47 : decode cX3_turnPin 47 = .ok (.invokestatic 67, 3) := by decide +kernel
theorem dX3_turnPin_50 : decode cX3_turnPin 50 = .ok (.aload_n 0, 1) := by decide +kernel
theorem dX3_turnPin_51 : decode cX3_turnPin 51 = .ok (.invokevirtual 108, 3) := by decide +kernel
theorem dX3_turnPin_54 : decode cX3_turnPin 54 = .ok (.ireturn, 1) := by decide +kernel
theorem dX3_changeSetting_0 : decode cX3_changeSetting 0 = .ok (.iload_n 1, 1) := by decide +kernel
theorem dX3_changeSetting_1 : decode cX3_changeSetting 1 = .ok (.ifCond .lt 9, 3) := by decide +kernel
theorem dX3_changeSetting_4 : decode cX3_changeSetting 4 = .ok (.iload_n 1, 1) := by decide +kernel
theorem dX3_changeSetting_5 : decode cX3_changeSetting 5 = .ok (.bipush 15, 2) := by decide +kernel
theorem dX3_changeSetting_7 : decode cX3_changeSetting 7 = .ok (.if_icmp .lt 5, 3) := by decide +kernel
theorem dX3_changeSetting_10 : decode cX3_changeSetting 10 = .ok (.iconst (-1), 1) := by decide +kernel
theorem dX3_changeSetting_11 : decode cX3_changeSetting 11 = .ok (.ireturn, 1) := by decide +kernel
theorem dX3_changeSetting_12 : decode cX3_changeSetting 12 = .ok (.iload_n 2, 1) := by decide +kernel
theorem dX3_changeSetting_13 : decode cX3_changeSetting 13 = .ok (.ifCond .lt 14, 3) := by decide +kernel
theorem dX3_changeSetting_16 : decode cX3_changeSetting 16 = .ok (.iload_n 2, 1) := by decide +kernel
theorem dX3_changeSetting_17 : decode cX3_changeSetting 17 = .ok (.getstatic 115, 3) := by decide +kernel
theorem dX3_changeSetting_20 : decode cX3_changeSetting 20 = .ok (.iload_n 1, 1) := by decide +kernel
theorem dX3_changeSetting_21 : decode cX3_changeSetting 21 = .ok (.invokestatic 49, 3) := by decide +kernel
theorem dX3_changeSetting_24 : decode cX3_changeSetting 24 = .ok (.if_icmp .le 6, 3) := by decide +kernel
theorem dX3_changeSetting_27 : decode cX3_changeSetting 27 = .ok (.bipush (-2), 2) := by decide +kernel
theorem dX3_changeSetting_29 : decode cX3_changeSetting 29 = .ok (.ireturn, 1) := by decide +kernel
theorem dX3_changeSetting_30 : decode cX3_changeSetting 30 = .ok (.aload_n 0, 1) := by decide +kernel
theorem dX3_changeSetting_31 : decode cX3_changeSetting 31 = .ok (.iload_n 1, 1) := by decide +kernel
theorem dX3_changeSetting_32 : decode cX3_changeSetting 32 = .ok (.iload_n 2, 1) := by decide +kernel
theorem dX3_changeSetting_33 : decode cX3_changeSetting 33 = .ok (.invokevirtual 118, 3) := by decide +kernel
theorem dX3_changeSetting_36 : decode cX3_changeSetting 36 = .ok (.ifCond .ne 6, 3) := by decide +kernel
theorem dX3_changeSetting_39 : decode cX3_changeSetting 39 = .ok (.bipush (-4), 2) := by decide +kernel
theorem dX3_changeSetting_41 : decode cX3_changeSetting 41 = .ok (.ireturn, 1) := by decide +kernel
theorem dX3_changeSetting_42 : decode cX3_changeSetting 42 = .ok (.aload_n 0, 1) := by decide +kernel
theorem dX3_changeSetting_43 : decode cX3_changeSetting 43 = .ok (.getfield 9, 3) := by decide +kernel
theorem dX3_changeSetting_46 : decode cX3_changeSetting 46 = .ok (.iload_n 1, 1) := by decide +kernel
theorem dX3_changeSetting_47 : decode cX3_changeSetting 47 = .ok (.invokestatic 49, 3) := by decide +kernel
theorem dX3_changeSetting_50 : decode cX3_changeSetting 50 = .ok (.istore_n 3, 1) := by decide +kernel
theorem dX3_changeSetting_51 : decode cX3_changeSetting 51 = .ok (.iload_n 3, 1) := by decide +kernel
theorem dX3_changeSetting_52 : decode cX3_changeSetting 52 = .ok (.iload_n 2, 1) := by decide +kernel
theorem dX3_changeSetting_53 : decode cX3_changeSetting 53 = .ok (.if_icmp .ne 6, 3) := by decide +kernel
theorem dX3_changeSetting_56 : decode cX3_changeSetting 56 = .ok (.bipush (-5), 2) := by decide +kernel
theorem dX3_changeSetting_58 : decode cX3_changeSetting 58 = .ok (.ireturn, 1) := by decide +kernel
theorem dX3_changeSetting_59 : decode cX3_changeSetting 59 = .ok (.aload_n 0, 1) := by decide +kernel
theorem dX3_changeSetting_60 : decode cX3_changeSetting 60 = .ok (.getfield 9, 3) := by decide +kernel
theorem dX3_changeSetting_63 : decode cX3_changeSetting 63 = .ok (.iload_n 1, 1) := by decide +kernel
theorem dX3_changeSetting_64 : decode cX3_changeSetting 64 = .ok (.iload_n 2, 1) := by decide +kernel
theorem dX3_changeSetting_65 : decode cX3_changeSetting 65 = .ok (.invokestatic 67, 3) := by decide +kernel
theorem dX3_changeSetting_68 : decode cX3_changeSetting 68 = .ok (.iload_n 3, 1) := by decide +kernel
theorem dX3_changeSetting_69 : decode cX3_changeSetting 69 = .ok (.ireturn, 1) := by decide +kernel
theorem dX3_allowsSetting_0 : decode cX3_allowsSetting 0 = .ok (.iload_n 1, 1) := by decide +kernel
theorem dX3_allowsSetting_1 : decode cX3_allowsSetting 1 = .ok (.iconst 1, 1) := by decide +kernel
theorem dX3_allowsSetting_2 : decode cX3_allowsSetting 2 = .ok (.if_icmp .ne 21, 3) := by decide +kernel
theorem dX3_allowsSetting_5 : decode cX3_allowsSetting 5 = .ok (.aload_n 0, 1) := by decide +kernel
theorem dX3_allowsSetting_6 : decode cX3_allowsSetting 6 = .ok (.getfield 9, 3) := by decide +kernel
theorem dX3_allowsSetting_9 : decode cX3_allowsSetting 9 = .ok (.iconst 2, 1) := by decide +kernel
theorem dX3_allowsSetting_10 : decode cX3_allowsSetting 10 = .ok (.invokestatic 49, 3) := by decide +kernel
theorem dX3_allowsSetting_13 : decode cX3_allowsSetting 13 = .ok (.iload_n 2, 1) := by decide +kernel
theorem dX3_allowsSetting_14 : decode cX3_allowsSetting 14 = .ok (.if_icmp .gt 7, 3) := by decide +kernel
theorem dX3_allowsSetting_17 : decode cX3_allowsSetting 17 = .ok (.iconst 1, 1) := by decide +kernel
theorem dX3_allowsSetting_18 : decode cX3_allowsSetting 18 = .ok (.goto 4, 3) := by decide +kernel
theorem dX3_allowsSetting_21 : decode cX3_allowsSetting 21 = .ok (.iconst 0, 1) := by decide +kernel
theorem dX3_allowsSetting_22 : decode cX3_allowsSetting 22 = .ok (.ireturn, 1) := by decide +kernel
theorem dX3_allowsSetting_23 : decode cX3_allowsSetting 23 = .ok (.iload_n 1, 1) := by decide +kernel
theorem dX3_allowsSetting_24 : decode cX3_allowsSetting 24 = .ok (.iconst 2, 1) := by decide +kernel
theorem dX3_allowsSetting_25 : decode cX3_allowsSetting 25 = .ok (.if_icmp .ne 21, 3) := by decide +kernel
theorem dX3_allowsSetting_28 : decode cX3_allowsSetting 28 = .ok (.iload_n 2, 1) := by decide +kernel
theorem dX3_allowsSetting_29 : decode cX3_allowsSetting 29 = .ok (.aload_n 0, 1) := by decide +kernel
theorem dX3_allowsSetting_30 : decode cX3_allowsSetting 30 = .ok (.getfield 9, 3) := by decide +kernel
theorem dX3_allowsSetting_33 : decode cX3_allowsSetting 33 = .ok (.iconst 1, 1) := by decide +kernel
theorem dX3_allowsSetting_34 : decode cX3_allowsSetting 34 = .ok (.invokestatic 49, 3) := by decide +kernel
theorem dX3_allowsSetting_37 : decode cX3_allowsSetting 37 = .ok (.if_icmp .gt 7, 3) := by decide +kernel
theorem dX3_allowsSetting_40 : decode cX3_allowsSetting 40 = .ok (.iconst 1, 1) := by decide +kernel
theorem dX3_allowsSetting_41 : decode cX3_allowsSetting 41 = .ok (.goto 4, 3) := by decide +kernel
theorem dX3_allowsSetting_44 : decode cX3_allowsSetting 44 = .ok (.iconst 0, 1) := by decide +kernel
theorem dX3_allowsSetting_45 : decode cX3_allowsSetting 45 = .ok (.ireturn, 1) := by decide +kernel
theorem dX3_allowsSetting_46 : decode cX3_allowsSetting 46 = .ok (.iload_n 1, 1) := by decide +kernel
theorem dX3_allowsSetting_47 : decode cX3_allowsSetting 47 = .ok (.bipush 6, 2) := by decide +kernel
theorem dX3_allowsSetting_49 : decode cX3_allowsSetting 49 = .ok (.if_icmp .lt 30, 3) := by decide +kernel
theorem dX3_allowsSetting_52 : decode cX3_allowsSetting 52 = .ok (.iload_n 1, 1) := by decide +kernel
theorem dX3_allowsSetting_53 : decode cX3_allowsSetting 53 = .ok (.bipush 9, 2) := by decide +kernel
theorem dX3_allowsSetting_55 : decode cX3_allowsSetting 55 = .ok (.if_icmp .ge 24, 3) := by decide +kernel
theorem dX3_allowsSetting_58 : decode cX3_allowsSetting 58 = .ok (.aload_n 0, 1) := by decide +kernel
theorem dX3_allowsSetting_59 : decode cX3_allowsSetting 59 = .ok (.getfield 15, 3) := by decide +kernel
theorem dX3_allowsSetting_62 : decode cX3_allowsSetting 62 = .ok (.iload_n 1, 1) := by decide +kernel
theorem dX3_allowsSetting_63 : decode cX3_allowsSetting 63 = .ok (.bipush 6, 2) := by decide +kernel
theorem dX3_allowsSetting_65 : decode cX3_allowsSetting 65 = .ok (.isub, 1) := by decide +kernel
theorem dX3_allowsSetting_66 : decode cX3_allowsSetting 66 = .ok (.invokestatic 49, 3) := by decide +kernel
theorem dX3_allowsSetting_69 : decode cX3_allowsSetting 69 = .ok (.iload_n 2, 1) := by decide +kernel
theorem dX3_allowsSetting_70 : decode cX3_allowsSetting 70 = .ok (.if_icmp .gt 7, 3) := by decide +kernel
theorem dX3_allowsSetting_73 : decode cX3_allowsSetting 73 = .ok (.iconst 1, 1) := by decide +kernel
theorem dX3_allowsSetting_74 : decode cX3_allowsSetting 74 = .ok (.goto 4, 3) := by decide +kernel
theorem dX3_allowsSetting_77 : decode cX3_allowsSetting 77 = .ok (.iconst 0, 1) := by decide +kernel
theorem dX3_allowsSetting_78 : decode cX3_allowsSetting 78 = .ok (.ireturn, 1) := by decide +kernel
theorem dX3_allowsSetting_79 : decode cX3_allowsSetting 79 = .ok (.iconst 1, 1) := by decide +kernel
theorem dX3_allowsSetting_80 : decode cX3_allowsSetting 80 = .ok (.ireturn, 1) := by decide +kernel
theorem dJ9_abs_0f7a4_0 : decode cJ9_abs_0f7a4 0 = .ok (.iload_n 0, 1) := by decide +kernel
theorem dJ9_abs_0f7a4_1 : decode cJ9_abs_0f7a4 1 = .ok (.ifCond .ge 8, 3) := by decide +kernel
theorem dJ9_abs_0f7a4_4 : decode cJ9_abs_0f7a4 4 = .ok (.iload_n 0, 1) := by decide +kernel
theorem dJ9_abs_0f7a4_5 : decode cJ9_abs_0f7a4 5 = .ok (.ineg, 1) := by decide +kernel
theorem dJ9_abs_0f7a4_6 : decode cJ9_abs_0f7a4 6 = .ok (.goto 4, 3) := by decide +kernel
theorem dJ9_abs_0f7a4_9 : decode cJ9_abs_0f7a4 9 = .ok (.iload_n 0, 1) := by decide +kernel
theorem dJ9_abs_0f7a4_10 : decode cJ9_abs_0f7a4 10 = .ok (.ireturn, 1) := by decide +kernel
theorem dJ9_max_7cf53_0 : decode cJ9_max_7cf53 0 = .ok (.iload_n 0, 1) := by decide +kernel
theorem dJ9_max_7cf53_1 : decode cJ9_max_7cf53 1 = .ok (.iload_n 1, 1) := by decide +kernel
theorem dJ9_max_7cf53_2 : decode cJ9_max_7cf53 2 = .ok (.if_icmp .lt 7, 3) := by decide +kernel
theorem dJ9_max_7cf53_5 : decode cJ9_max_7cf53 5 = .ok (.iload_n 0, 1) := by decide +kernel
theorem dJ9_max_7cf53_6 : decode cJ9_max_7cf53 6 = .ok (.goto 4, 3) := by decide +kernel
theorem dJ9_max_7cf53_9 : decode cJ9_max_7cf53 9 = .ok (.iload_n 1, 1) := by decide +kernel
theorem dJ9_max_7cf53_10 : decode cJ9_max_7cf53 10 = .ok (.ireturn, 1) := by decide +kernel
theorem dJ9_min_7cf53_0 : decode cJ9_min_7cf53 0 = .ok (.iload_n 0, 1) := by decide +kernel
theorem dJ9_min_7cf53_1 : decode cJ9_min_7cf53 1 = .ok (.iload_n 1, 1) := by decide +kernel
theorem dJ9_min_7cf53_2 : decode cJ9_min_7cf53 2 = .ok (.if_icmp .gt 7, 3) := by decide +kernel
theorem dJ9_min_7cf53_5 : decode cJ9_min_7cf53 5 = .ok (.iload_n 0, 1) := by decide +kernel
theorem dJ9_min_7cf53_6 : decode cJ9_min_7cf53 6 = .ok (.goto 4, 3) := by decide +kernel
theorem dJ9_min_7cf53_9 : decode cJ9_min_7cf53 9 = .ok (.iload_n 1, 1) := by decide +kernel
theorem dJ9_min_7cf53_10 : decode cJ9_min_7cf53 10 = .ok (.ireturn, 1) := by decide +kernel
