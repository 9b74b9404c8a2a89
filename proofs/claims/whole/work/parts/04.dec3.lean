theorem dX5_init_0 : decode cX5_init 0 = .ok (.aload_n 0, 1) := by decide +kernel
theorem dX5_init_1 : decode cX5_init 1 = .ok (.invokespecial 1, 3) := by decide +kernel
theorem dX5_init_4 : decode cX5_init 4 = .ok (.aload_n 0, 1) := by decide +kernel
theorem dX5_init_5 : decode cX5_init 5 = .ok (.sipush 430, 3) := by decide +kernel
theorem dX5_init_8 : decode cX5_init 8 = .ok (.newarray .int, 2) := by decide +kernel
theorem dX5_init_10 : decode cX5_init 10 = .ok (.putfield 7, 3) := by decide +kernel
theorem dX5_init_13 : decode cX5_init 13 = .ok (.aload_n 0, 1) := by decide +kernel
theorem dX5_init_14 : decode cX5_init 14 = .ok (.sipush 860, 3) := by decide +kernel
theorem dX5_init_17 : decode cX5_init 17 = .ok (.newarray .int, 2) := by decide +kernel
theorem dX5_init_19 : decode cX5_init 19 = .ok (.putfield 13, 3) := by decide +kernel
theorem dX5_init_22 : decode cX5_init 22 = .ok (.aload_n 0, 1) := by decide +kernel
theorem dX5_init_23 : decode cX5_init 23 = .ok (.sipush 215, 3) := by decide +kernel
theorem dX5_init_26 : decode cX5_init 26 = .ok (.newarray .int, 2) := by decide +kernel
theorem dX5_init_28 : decode cX5_init 28 = .ok (.putfield 16, 3) := by decide +kernel
theorem dX5_init_31 : decode cX5_init 31 = .ok (.aload_n 0, 1) := by decide +kernel
theorem dX5_init_32 : decode cX5_init 32 = .ok (.bipush 60, 2) := by decide +kernel
theorem dX5_init_34 : decode cX5_init 34 = .ok (.newarray .int, 2) := by decide +kernel
theorem dX5_init_36 : decode cX5_init 36 = .ok (.putfield 19, 3) := by decide +kernel
theorem dX5_init_39 : decode cX5_init 39 = .ok (.aload_n 0, 1) := by decide +kernel
theorem dX5_init_40 : decode cX5_init 40 = .ok (.bipush 24, 2) := by decide +kernel
theorem dX5_init_42 : decode cX5_init 42 = .ok (.newarray .int, 2) := by decide +kernel
theorem dX5_init_44 : decode cX5_init 44 = .ok (.putfield 22, 3) := by decide +kernel
theorem dX5_init_47 : decode cX5_init 47 = .ok (.aload_n 0, 1) := by decide +kernel
theorem dX5_init_48 : decode cX5_init 48 = .ok (.getfield 7, 3) := by decide +kernel
theorem dX5_init_51 : decode cX5_init 51 = .ok (.iconst 0, 1) := by decide +kernel
theorem dX5_init_52 : decode cX5_init 52 = .ok (.bipush 80, 2) := by decide +kernel
theorem dX5_init_54 : decode cX5_init 54 = .ok (.iastore, 1) := by decide +kernel
theorem dX5_init_55 : decode cX5_init 55 = .ok (.aload_n 0, 1) := by decide +kernel
theorem dX5_init_56 : decode cX5_init 56 = .ok (.getfield 7, 3) := by decide +kernel
theorem dX5_init_59 : decode cX5_init 59 = .ok (.iconst 1, 1) := by decide +kernel
theorem dX5_init_60 : decode cX5_init 60 = .ok (.sipush 3000, 3) := by decide +kernel
theorem dX5_init_63 : decode cX5_init 63 = .ok (.iastore, 1) := by decide +kernel
theorem dX5_init_64 : decode cX5_init 64 = .ok (.aload_n 0, 1) := by decide +kernel
theorem dX5_init_65 : decode cX5_init 65 = .ok (.getfield 7, 3) := by decide +kernel
theorem dX5_init_68 : decode cX5_init 68 = .ok (.iconst 2, 1) := by decide +kernel
theorem dX5_init_69 : decode cX5_init 69 = .ok (.sipush 500, 3) := by decide +kernel
theorem dX5_init_72 : decode cX5_init 72 = .ok (.iastore, 1) := by decide +kernel
theorem dX5_init_73 : decode cX5_init 73 = .ok (.aload_n 0, 1) := by decide +kernel
theorem dX5_init_74 : decode cX5_init 74 = .ok (.getfield 7, 3) := by decide +kernel
theorem dX5_init_77 : decode cX5_init 77 = .ok (.iconst 3, 1) := by decide +kernel
theorem dX5_init_78 : decode cX5_init 78 = .ok (.iconst 4, 1) := by decide +kernel
theorem dX5_init_79 : decode cX5_init 79 = .ok (.iastore, 1) := by decide +kernel
theorem dX5_init_80 : decode cX5_init 80 = .ok (.aload_n 0, 1) := by decide +kernel
theorem dX5_init_81 : decode cX5_init 81 = .ok (.getfield 7, 3) := by decide +kernel
theorem dX5_init_84 : decode cX5_init 84 = .ok (.iconst 4, 1) := by decide +kernel
theorem dX5_init_85 : decode cX5_init 85 = .ok (.iconst 5, 1) := by decide +kernel
theorem dX5_init_86 : decode cX5_init 86 = .ok (.iastore, 1) := by decide +kernel
theorem dX5_init_87 : decode cX5_init 87 = .ok (.aload_n 0, 1) := by decide +kernel
theorem dX5_init_88 : decode cX5_init 88 = .ok (.getfield 7, 3) := by decide +kernel
theorem dX5_init_91 : decode cX5_init 91 = .ok (.iconst 5, 1) := by decide +kernel
theorem dX5_init_92 : decode cX5_init 92 = .ok (.iconst 2, 1) := by decide +kernel
theorem dX5_init_93 : decode cX5_init 93 = .ok (.iastore, 1) := by decide +kernel
theorem dX5_init_94 : decode cX5_init 94 = .ok (.aload_n 0, 1) := by decide +kernel
theorem dX5_init_95 : decode cX5_init 95 = .ok (.getfield 7, 3) := by decide +kernel
theorem dX5_init_98 : decode cX5_init 98 = .ok (.bipush 6, 2) := by decide +kernel
theorem dX5_init_100 : decode cX5_init 100 = .ok (.bipush 20, 2) := by decide +kernel
theorem dX5_init_102 : decode cX5_init 102 = .ok (.iastore, 1) := by decide +kernel
theorem dX5_init_103 : decode cX5_init 103 = .ok (.aload_n 0, 1) := by decide +kernel
theorem dX5_init_104 : decode cX5_init 104 = .ok (.getfield 7, 3) := by decide +kernel
theorem dX5_init_107 : decode cX5_init 107 = .ok (.bipush 7, 2) := by decide +kernel
theorem dX5_init_109 : decode cX5_init 109 = .ok (.bipush 40, 2) := by decide +kernel
theorem dX5_init_111 : decode cX5_init 111 = .ok (.iastore, 1) := by decide +kernel
theorem dX5_init_112 : decode cX5_init 112 = .ok (.aload_n 0, 1) := by decide +kernel
theorem dX5_init_113 : decode cX5_init 113 = .ok (.getfield 7, 3) := by decide +kernel
theorem dX5_init_116 : decode cX5_init 116 = .ok (.bipush 8, 2) := by decide +kernel
theorem dX5_init_118 : decode cX5_init 118 = .ok (.sipush 200, 3) := by decide +kernel
theorem dX5_init_121 : decode cX5_init 121 = .ok (.iastore, 1) := by decide +kernel
theorem dX5_init_122 : decode cX5_init 122 = .ok (.aload_n 0, 1) := by decide +kernel
theorem dX5_init_123 : decode cX5_init 123 = .ok (.getfield 7, 3) := by decide +kernel
theorem dX5_init_126 : decode cX5_init 126 = .ok (.bipush 9, 2) := by decide +kernel
theorem dX5_init_128 : decode cX5_init 128 = .ok (.bipush 10, 2) := by decide +kernel
theorem dX5_init_130 : decode cX5_init 130 = .ok (.iastore, 1) := by decide +kernel
theorem dX5_init_131 : decode cX5_init 131 = .ok (.aload_n 0, 1) := by decide +kernel
theorem dX5_init_132 : decode cX5_init 132 = .ok (.getfield 7, 3) := by decide +kernel
theorem dX5_init_135 : decode cX5_init 135 = .ok (.bipush 10, 2) := by decide +kernel
theorem dX5_init_137 : decode cX5_init 137 = .ok (.iconst 4, 1) := by decide +kernel
theorem dX5_init_138 : decode cX5_init 138 = .ok (.iastore, 1) := by decide +kernel
theorem dX5_init_139 : decode cX5_init 139 = .ok (.aload_n 0, 1) := by decide +kernel
theorem dX5_init_140 : decode cX5_init 140 = .ok (.getfield 7, 3) := by decide +kernel
theorem dX5_init_143 : decode cX5_init 143 = .ok (.bipush 11, 2) := by decide +kernel
theorem dX5_init_145 : decode cX5_init 145 = .ok (.iconst 1, 1) := by decide +kernel
theorem dX5_init_146 : decode cX5_init 146 = .ok (.iastore, 1) := by decide +kernel
theorem dX5_init_147 : decode cX5_init 147 = .ok (.aload_n 0, 1) := by decide +kernel
theorem dX5_init_148 : decode cX5_init 148 = .ok (.getfield 7, 3) := by decide +kernel
theorem dX5_init_151 : decode cX5_init 151 = .ok (.bipush 13, 2) := by decide +kernel
theorem dX5_init_153 : decode cX5_init 153 = .ok (.iconst 2, 1) := by decide +kernel
theorem dX5_init_154 : decode cX5_init 154 = .ok (.iastore, 1) := by decide +kernel
theorem dX5_init_155 : decode cX5_init 155 = .ok (.aload_n 0, 1) := by decide +kernel
theorem dX5_init_156 : decode cX5_init 156 = .ok (.getfield 7, 3) := by decide +kernel
theorem dX5_init_159 : decode cX5_init 159 = .ok (.bipush 14, 2) := by decide +kernel
theorem dX5_init_161 : decode cX5_init 161 = .ok (.bipush 9, 2) := by decide +kernel
theorem dX5_init_163 : decode cX5_init 163 = .ok (.iastore, 1) := by decide +kernel
theorem dX5_init_164 : decode cX5_init 164 = .ok (.return_, 1) := by decide +kernel
theorem dX5_in_0 : decode cX5_in 0 = .ok (.iload_n 0, 1) := by decide +kernel
theorem dX5_in_1 : decode cX5_in 1 = .ok (.iload_n 1, 1) := by decide +kernel
theorem dX5_in_2 : decode cX5_in 2 = .ok (.if_icmp .lt 12, 3) := by decide +kernel
theorem dX5_in_5 : decode cX5_in 5 = .ok (.iload_n 0, 1) := by decide +kernel
theorem dX5_in_6 : decode cX5_in 6 = .ok (.iload_n 2, 1) := by decide +kernel
theorem dX5_in_7 : decode cX5_in 7 = .ok (.if_icmp .gt 7, 3) := by decide +kernel
theorem dX5_in_10 : decode cX5_in 10 = .ok (.iconst 1, 1) := by decide +kernel
theorem dX5_in_11 : decode cX5_in 11 = .ok (.goto 4, 3) := by decide +kernel
theorem dX5_in_14 : decode cX5_in 14 = .ok (.iconst 0, 1) := by decide +kernel
theorem dX5_in_15 : decode cX5_in 15 = .ok (.ireturn, 1) := by decide +kernel
theorem dX5_copies_0 : decode cX5_copies 0 = .ok (.iconst 0, 1) := by decide +kernel
theorem dX5_copies_1 : decode cX5_copies 1 = .ok (.istore_n 1, 1) := by decide +kernel
theorem dX5_copies_2 : decode cX5_copies 2 = .ok (.iload_n 1, 1) := by decide +kernel
theorem dX5_copies_3 : decode cX5_copies 3 = .ok (.sipush 215, 3) := by decide +kernel
theorem dX5_copies_6 : decode cX5_copies 6 = .ok (.if_icmp .ge 25, 3) := by decide +kernel
theorem dX5_copies_9 : decode cX5_copies 9 = .ok (.aload_n 0, 1) := by decide +kernel
theorem dX5_copies_10 : decode cX5_copies 10 = .ok (.getfield 7, 3) := by decide +kernel
theorem dX5_copies_13 : decode cX5_copies 13 = .ok (.sipush 215, 3) := by decide +kernel
theorem dX5_copies_16 : decode cX5_copies 16 = .ok (.iload_n 1, 1) := by decide +kernel
theorem dX5_copies_17 : decode cX5_copies 17 = .ok (.iadd, 1) := by decide +kernel
theorem dX5_copies_18 : decode cX5_copies 18 = .ok (.aload_n 0, 1) := by decide +kernel
theorem dX5_copies_19 : decode cX5_copies 19 = .ok (.getfield 7, 3) := by decide +kernel
theorem dX5_copies_22 : decode cX5_copies 22 = .ok (.iload_n 1, 1) := by decide +kernel
theorem dX5_copies_23 : decode cX5_copies 23 = .ok (.iaload, 1) := by decide +kernel
theorem dX5_copies_24 : decode cX5_copies 24 = .ok (.iastore, 1) := by decide +kernel
theorem dX5_copies_25 : decode cX5_copies 25 = .ok (.iinc 1 1, 3) := by decide +kernel
theorem dX5_copies_28 : decode cX5_copies 28 = .ok (.goto (-26), 3) := by decide +kernel
theorem dX5_copies_31 : decode cX5_copies 31 = .ok (.return_, 1) := by decide +kernel
theorem dX5_remembers_0 : decode cX5_remembers 0 = .ok (.aload_n 0, 1) := by decide +kernel
theorem dX5_remembers_1 : decode cX5_remembers 1 = .ok (.getfield 25, 3) := by decide +kernel
theorem dX5_remembers_4 : decode cX5_remembers 4 = .ok (.iconst 4, 1) := by decide +kernel
theorem dX5_remembers_5 : decode cX5_remembers 5 = .ok (.if_icmp .ne 44, 3) := by decide +kernel
theorem dX5_remembers_8 : decode cX5_remembers 8 = .ok (.iconst 0, 1) := by decide +kernel
theorem dX5_remembers_9 : decode cX5_remembers 9 = .ok (.istore_n 1, 1) := by decide +kernel
theorem dX5_remembers_10 : decode cX5_remembers 10 = .ok (.iload_n 1, 1) := by decide +kernel
theorem dX5_remembers_11 : decode cX5_remembers 11 = .ok (.sipush 645, 3) := by decide +kernel
theorem dX5_remembers_14 : decode cX5_remembers 14 = .ok (.if_icmp .ge 25, 3) := by decide +kernel
theorem dX5_remembers_17 : decode cX5_remembers 17 = .ok (.aload_n 0, 1) := by decide +kernel
theorem dX5_remembers_18 : decode cX5_remembers 18 = .ok (.getfield 13, 3) := by decide +kernel
theorem dX5_remembers_21 : decode cX5_remembers 21 = .ok (.iload_n 1, 1) := by decide +kernel
theorem dX5_remembers_22 : decode cX5_remembers 22 = .ok (.aload_n 0, 1) := by decide +kernel
theorem dX5_remembers_23 : decode cX5_remembers 23 = .ok (.getfield 13, 3) := by decide +kernel
theorem dX5_remembers_26 : decode cX5_remembers 26 = .ok (.sipush 215, 3) := by decide +kernel
theorem dX5_remembers_29 : decode cX5_remembers 29 = .ok (.iload_n 1, 1) := by decide +kernel
theorem dX5_remembers_30 : decode cX5_remembers 30 = .ok (.iadd, 1) := by decide +kernel
theorem dX5_remembers_31 : decode cX5_remembers 31 = .ok (.iaload, 1) := by decide +kernel
theorem dX5_remembers_32 : decode cX5_remembers 32 = .ok (.iastore, 1) := by decide +kernel
theorem dX5_remembers_33 : decode cX5_remembers 33 = .ok (.iinc 1 1, 3) := by decide +kernel
theorem dX5_remembers_36 : decode cX5_remembers 36 = .ok (.goto (-26), 3) := by decide +kernel
theorem dX5_remembers_39 : decode cX5_remembers 39 = .ok (.aload_n 0, 1) := by decide +kernel
theorem dX5_remembers_40 : decode cX5_remembers 40 = .ok (.dup, 1) := by decide +kernel
theorem dX5_remembers_41 : decode cX5_remembers 41 = .ok (.getfield 25, 3) := by decide +kernel
theorem dX5_remembers_44 : decode cX5_remembers 44 = .ok (.iconst 1, 1) := by decide +kernel
theorem dX5_remembers_45 : decode cX5_remembers 45 = .ok (.isub, 1) := by decide +kernel
theorem dX5_remembers_46 : decode cX5_remembers 46 = .ok (.putfield 25, 3) := by decide +kernel
theorem dX5_remembers_49 : decode cX5_remembers 49 = .ok (.iconst 0, 1) := by decide +kernel
theorem dX5_remembers_50 : decode cX5_remembers 50 = .ok (.istore_n 1, 1) := by decide +kernel
theorem dX5_remembers_51 : decode cX5_remembers 51 = .ok (.iload_n 1, 1) := by decide +kernel
theorem dX5_remembers_52 : decode cX5_remembers 52 = .ok (.sipush 215, 3) := by decide +kernel
theorem dX5_remembers_55 : decode cX5_remembers 55 = .ok (.if_icmp .ge 30, 3) := by decide +kernel
theorem dX5_remembers_58 : decode cX5_remembers 58 = .ok (.aload_n 0, 1) := by decide +kernel
theorem dX5_remembers_59 : decode cX5_remembers 59 = .ok (.getfield 13, 3) := by decide +kernel
theorem dX5_remembers_62 : decode cX5_remembers 62 = .ok (.sipush 215, 3) := by decide +kernel
theorem dX5_remembers_65 : decode cX5_remembers 65 = .ok (.aload_n 0, 1) := by decide +kernel
theorem dX5_remembers_66 : decode cX5_remembers 66 = .ok (.getfield 25, 3) := by decide +kernel
theorem dX5_remembers_69 : decode cX5_remembers 69 = .ok (.imul, 1) := by decide +kernel
theorem dX5_remembers_70 : decode cX5_remembers 70 = .ok (.iload_n 1, 1) := by decide +kernel
theorem dX5_remembers_71 : decode cX5_remembers 71 = .ok (.iadd, 1) := by decide +kernel
theorem dX5_remembers_72 : decode cX5_remembers 72 = .ok (.aload_n 0, 1) := by decide +kernel
theorem dX5_remembers_73 : decode cX5_remembers 73 = .ok (.getfield 7, 3) := by decide +kernel
theorem dX5_remembers_76 : decode cX5_remembers 76 = .ok (.iload_n 1, 1) := by decide +kernel
theorem dX5_remembers_77 : decode cX5_remembers 77 = .ok (.iaload, 1) := by decide +kernel
theorem dX5_remembers_78 : decode cX5_remembers 78 = .ok (.iastore, 1) := by decide +kernel
theorem dX5_remembers_79 : decode cX5_remembers 79 = .ok (.iinc 1 1, 3) := by decide +kernel
theorem dX5_remembers_82 : decode cX5_remembers 82 = .ok (.goto (-31), 3) := by decide +kernel
theorem dX5_remembers_85 : decode cX5_remembers 85 = .ok (.aload_n 0, 1) := by decide +kernel
theorem dX5_remembers_86 : decode cX5_remembers 86 = .ok (.dup, 1) := by decide +kernel
theorem dX5_remembers_87 : decode cX5_remembers 87 = .ok (.getfield 25, 3) := by decide +kernel
theorem dX5_remembers_90 : decode cX5_remembers 90 = .ok (.iconst 1, 1) := by decide +kernel
theorem dX5_remembers_91 : decode cX5_remembers 91 = .ok (.iadd, 1) := by decide +kernel
theorem dX5_remembers_92 : decode cX5_remembers 92 = .ok (.putfield 25, 3) := by decide +kernel
theorem dX5_remembers_95 : decode cX5_remembers 95 = .ok (.return_, 1) := by decide +kernel
theorem dX5_lays_0 : decode cX5_lays 0 = .ok (.aload_n 0, 1) := by decide +kernel
theorem dX5_lays_1 : decode cX5_lays 1 = .ok (.invokevirtual 29, 3) := by decide +kernel
theorem dX5_lays_4 : decode cX5_lays 4 = .ok (.iconst 0, 1) := by decide +kernel
theorem dX5_lays_5 : decode cX5_lays 5 = .ok (.istore_n 1, 1) := by decide +kernel
theorem dX5_lays_6 : decode cX5_lays 6 = .ok (.iload_n 1, 1) := by decide +kernel
theorem dX5_lays_7 : decode cX5_lays 7 = .ok (.sipush 215, 3) := by decide +kernel
theorem dX5_lays_10 : decode cX5_lays 10 = .ok (.if_icmp .ge 25, 3) := by decide +kernel
theorem dX5_lays_13 : decode cX5_lays 13 = .ok (.aload_n 0, 1) := by decide +kernel
theorem dX5_lays_14 : decode cX5_lays 14 = .ok (.getfield 7, 3) := by decide +kernel
theorem dX5_lays_17 : decode cX5_lays 17 = .ok (.iload_n 1, 1) := by decide +kernel
theorem dX5_lays_18 : decode cX5_lays 18 = .ok (.aload_n 0, 1) := by decide +kernel
theorem dX5_lays_19 : decode cX5_lays 19 = .ok (.getfield 7, 3) := by decide +kernel
theorem dX5_lays_22 : decode cX5_lays 22 = .ok (.sipush 215, 3) := by decide +kernel
theorem dX5_lays_25 : decode cX5_lays 25 = .ok (.iload_n 1, 1) := by decide +kernel
theorem dX5_lays_26 : decode cX5_lays 26 = .ok (.iadd, 1) := by decide +kernel
theorem dX5_lays_27 : decode cX5_lays 27 = .ok (.iaload, 1) := by decide +kernel
theorem dX5_lays_28 : decode cX5_lays 28 = .ok (.iastore, 1) := by decide +kernel
theorem dX5_lays_29 : decode cX5_lays 29 = .ok (.iinc 1 1, 3) := by decide +kernel
theorem dX5_lays_32 : decode cX5_lays 32 = .ok (.goto (-26), 3) := by decide +kernel
theorem dX5_lays_35 : decode cX5_lays 35 = .ok (.return_, 1) := by decide +kernel
theorem dX5_at_0 : decode cX5_at 0 = .ok (.iload_n 0, 1) := by decide +kernel
theorem dX5_at_1 : decode cX5_at 1 = .ok (.bipush 23, 2) := by decide +kernel
theorem dX5_at_3 : decode cX5_at 3 = .ok (.iadd, 1) := by decide +kernel
theorem dX5_at_4 : decode cX5_at 4 = .ok (.bipush 8, 2) := by decide +kernel
theorem dX5_at_6 : decode cX5_at 6 = .ok (.iload_n 1, 1) := by decide +kernel
theorem dX5_at_7 : decode cX5_at 7 = .ok (.imul, 1) := by decide +kernel
theorem dX5_at_8 : decode cX5_at 8 = .ok (.iadd, 1) := by decide +kernel
theorem dX5_at_9 : decode cX5_at 9 = .ok (.ireturn, 1) := by decide +kernel
theorem dX5_placeOf_0 : decode cX5_placeOf 0 = .ok (.iconst 0, 1) := by decide +kernel
theorem dX5_placeOf_1 : decode cX5_placeOf 1 = .ok (.istore_n 3, 1) := by decide +kernel
theorem dX5_placeOf_2 : decode cX5_placeOf 2 = .ok (.iload_n 3, 1) := by decide +kernel
theorem dX5_placeOf_3 : decode cX5_placeOf 3 = .ok (.aload_n 0, 1) := by decide +kernel
theorem dX5_placeOf_4 : decode cX5_placeOf 4 = .ok (.getfield 7, 3) := by decide +kernel
theorem dX5_placeOf_7 : decode cX5_placeOf 7 = .ok (.iload_n 1, 1) := by decide +kernel
theorem dX5_placeOf_8 : decode cX5_placeOf 8 = .ok (.bipush 15, 2) := by decide +kernel
theorem dX5_placeOf_10 : decode cX5_placeOf 10 = .ok (.iadd, 1) := by decide +kernel
theorem dX5_placeOf_11 : decode cX5_placeOf 11 = .ok (.iaload, 1) := by decide +kernel
theorem dX5_placeOf_12 : decode cX5_placeOf 12 = .ok (.if_icmp .ge 25, 3) := by decide +kernel
theorem dX5_placeOf_15 : decode cX5_placeOf 15 = .ok (.aload_n 0, 1) := by decide +kernel
theorem dX5_placeOf_16 : decode cX5_placeOf 16 = .ok (.getfield 7, 3) := by decide +kernel
theorem dX5_placeOf_19 : decode cX5_placeOf 19 = .ok (.iload_n 1, 1) := by decide +kernel
theorem dX5_placeOf_20 : decode cX5_placeOf 20 = .ok (.iload_n 3, 1) := by decide +kernel
theorem dX5_placeOf_21 : decode cX5_placeOf 21 = .ok (.invokestatic 32, 3) := by decide +kernel
theorem dX5_placeOf_24 : decode cX5_placeOf 24 = .ok (.iaload, 1) := by decide +kernel
theorem dX5_placeOf_25 : decode cX5_placeOf 25 = .ok (.iload_n 2, 1) := by decide +kernel
theorem dX5_placeOf_26 : decode cX5_placeOf 26 = .ok (.if_icmp .ne 5, 3) := by decide +kernel
theorem dX5_placeOf_29 : decode cX5_placeOf 29 = .ok (.iload_n 3, 1) := by decide +kernel
theorem dX5_placeOf_30 : decode cX5_placeOf 30 = .ok (.ireturn, 1) := by decide +kernel
theorem dX5_placeOf_31 : decode cX5_placeOf 31 = .ok (.iinc 3 1, 3) := by decide +kernel
theorem dX5_placeOf_34 : decode cX5_placeOf 34 = .ok (.goto (-32), 3) := by decide +kernel
theorem dX5_placeOf_37 : decode cX5_placeOf 37 = .ok (.bipush (-5), 2) := by decide +kernel
theorem dX5_placeOf_39 : decode cX5_placeOf 39 = .ok (.ireturn, 1) := by decide +kernel
theorem dX5_on_0 : decode cX5_on 0 = .ok (.iconst 0, 1) := by decide +kernel
theorem dX5_on_1 : decode cX5_on 1 = .ok (.istore 4, 2) := by decide +kernel
theorem dX5_on_3 : decode cX5_on 3 = .ok (.iconst 0, 1) := by decide +kernel
theorem dX5_on_4 : decode cX5_on 4 = .ok (.istore 5, 2) := by decide +kernel
theorem dX5_on_6 : decode cX5_on 6 = .ok (.iload 5, 2) := by decide +kernel
theorem dX5_on_8 : decode cX5_on 8 = .ok (.aload_n 0, 1) := by decide +kernel
theorem dX5_on_9 : decode cX5_on 9 = .ok (.getfield 7, 3) := by decide +kernel
theorem dX5_on_12 : decode cX5_on 12 = .ok (.iload_n 1, 1) := by decide +kernel
theorem dX5_on_13 : decode cX5_on 13 = .ok (.bipush 15, 2) := by decide +kernel
theorem dX5_on_15 : decode cX5_on 15 = .ok (.iadd, 1) := by decide +kernel
theorem dX5_on_16 : decode cX5_on 16 = .ok (.iaload, 1) := by decide +kernel
theorem dX5_on_17 : decode cX5_on 17 = .ok (.if_icmp .ge 60, 3) := by decide +kernel
theorem dX5_on_20 : decode cX5_on 20 = .ok (.iload_n 3, 1) := by decide +kernel
theorem dX5_on_21 : decode cX5_on 21 = .ok (.ifCond .ne 7, 3) := by decide +kernel
theorem dX5_on_24 : decode cX5_on 24 = .ok (.iconst 1, 1) := by decide +kernel
theorem dX5_on_25 : decode cX5_on 25 = .ok (.goto 16, 3) := by decide +kernel
theorem dX5_on_28 : decode cX5_on 28 = .ok (.aload_n 0, 1) := by decide +kernel
theorem dX5_on_29 : decode cX5_on 29 = .ok (.getfield 7, 3) := by decide +kernel
theorem dX5_on_32 : decode cX5_on 32 = .ok (.iload_n 1, 1) := by decide +kernel
theorem dX5_on_33 : decode cX5_on 33 = .ok (.iload 5, 2) := by decide +kernel
theorem dX5_on_35 : decode cX5_on 35 = .ok (.invokestatic 32, 3) := by decide +kernel
theorem dX5_on_38 : decode cX5_on 38 = .ok (.iload_n 3, 1) := by decide +kernel
theorem dX5_on_39 : decode cX5_on 39 = .ok (.iadd, 1) := by decide +kernel
theorem dX5_on_40 : decode cX5_on 40 = .ok (.iaload, 1) := by decide +kernel
theorem dX5_on_41 : decode cX5_on 41 = .ok (.istore 6, 2) := by decide +kernel
theorem dX5_on_43 : decode cX5_on 43 = .ok (.iload 4, 2) := by decide +kernel
theorem dX5_on_45 : decode cX5_on 45 = .ok (.aload_n 0, 1) := by decide +kernel
theorem dX5_on_46 : decode cX5_on 46 = .ok (.getfield 7, 3) := by decide +kernel
theorem dX5_on_49 : decode cX5_on 49 = .ok (.iload_n 1, 1) := by decide +kernel
theorem dX5_on_50 : decode cX5_on 50 = .ok (.iload 5, 2) := by decide +kernel
theorem dX5_on_52 : decode cX5_on 52 = .ok (.invokestatic 32, 3) := by decide +kernel
theorem dX5_on_55 : decode cX5_on 55 = .ok (.iconst 3, 1) := by decide +kernel
theorem dX5_on_56 : decode cX5_on 56 = .ok (.iadd, 1) := by decide +kernel
theorem dX5_on_57 : decode cX5_on 57 = .ok (.iaload, 1) := by decide +kernel
theorem dX5_on_58 : decode cX5_on 58 = .ok (.iload_n 2, 1) := by decide +kernel
theorem dX5_on_59 : decode cX5_on 59 = .ok (.if_icmp .ne 8, 3) := by decide +kernel
theorem dX5_on_62 : decode cX5_on 62 = .ok (.iload 6, 2) := by decide +kernel
theorem dX5_on_64 : decode cX5_on 64 = .ok (.goto 4, 3) := by decide +kernel
theorem dX5_on_67 : decode cX5_on 67 = .ok (.iconst 0, 1) := by decide +kernel
theorem dX5_on_68 : decode cX5_on 68 = .ok (.iadd, 1) := by decide +kernel
theorem dX5_on_69 : decode cX5_on 69 = .ok (.istore 4, 2) := by decide +kernel
theorem dX5_on_71 : decode cX5_on 71 = .ok (.iinc 5 1, 3) := by decide +kernel
theorem dX5_on_74 : decode cX5_on 74 = .ok (.goto (-68), 3) := by decide +kernel
theorem dX5_on_77 : decode cX5_on 77 = .ok (.iload 4, 2) := by decide +kernel
theorem dX5_on_79 : decode cX5_on 79 = .ok (.ireturn, 1) := by decide +kernel
theorem dX5_hasRoom_0 : decode cX5_hasRoom 0 = .ok (.aload_n 0, 1) := by decide +kernel
theorem dX5_hasRoom_1 : decode cX5_hasRoom 1 = .ok (.iload_n 1, 1) := by decide +kernel
theorem dX5_hasRoom_2 : decode cX5_hasRoom 2 = .ok (.iload_n 2, 1) := by decide +kernel
theorem dX5_hasRoom_3 : decode cX5_hasRoom 3 = .ok (.iconst 1, 1) := by decide +kernel
theorem dX5_hasRoom_4 : decode cX5_hasRoom 4 = .ok (.invokevirtual 36, 3) := by decide +kernel
theorem dX5_hasRoom_7 : decode cX5_hasRoom 7 = .ok (.iload_n 3, 1) := by decide +kernel
theorem dX5_hasRoom_8 : decode cX5_hasRoom 8 = .ok (.iadd, 1) := by decide +kernel
theorem dX5_hasRoom_9 : decode cX5_hasRoom 9 = .ok (.aload_n 0, 1) := by decide +kernel
theorem dX5_hasRoom_10 : decode cX5_hasRoom 10 = .ok (.getfield 7, 3) := by decide +kernel
theorem dX5_hasRoom_13 : decode cX5_hasRoom 13 = .ok (.iload_n 1, 1) := by decide +kernel
theorem dX5_hasRoom_14 : decode cX5_hasRoom 14 = .ok (.bipush 6, 2) := by decide +kernel
theorem dX5_hasRoom_16 : decode cX5_hasRoom 16 = .ok (.iadd, 1) := by decide +kernel
theorem dX5_hasRoom_17 : decode cX5_hasRoom 17 = .ok (.iload_n 2, 1) := by decide +kernel
theorem dX5_hasRoom_18 : decode cX5_hasRoom 18 = .ok (.iadd, 1) := by decide +kernel
theorem dX5_hasRoom_19 : decode cX5_hasRoom 19 = .ok (.iaload, 1) := by decide +kernel
theorem dX5_hasRoom_20 : decode cX5_hasRoom 20 = .ok (.if_icmp .gt 7, 3) := by decide +kernel
theorem dX5_hasRoom_23 : decode cX5_hasRoom 23 = .ok (.iconst 1, 1) := by decide +kernel
theorem dX5_hasRoom_24 : decode cX5_hasRoom 24 = .ok (.goto 4, 3) := by decide +kernel
theorem dX5_hasRoom_27 : decode cX5_hasRoom 27 = .ok (.iconst 0, 1) := by decide +kernel
theorem dX5_hasRoom_28 : decode cX5_hasRoom 28 = .ok (.ireturn, 1) := by decide +kernel
theorem dX5_wanted_0 : decode cX5_wanted 0 = .ok (.aload_n 0, 1) := by decide +kernel
theorem dX5_wanted_1 : decode cX5_wanted 1 = .ok (.getfield 7, 3) := by decide +kernel
theorem dX5_wanted_4 : decode cX5_wanted 4 = .ok (.iload_n 1, 1) := by decide +kernel
theorem dX5_wanted_5 : decode cX5_wanted 5 = .ok (.iload_n 2, 1) := by decide +kernel
theorem dX5_wanted_6 : decode cX5_wanted 6 = .ok (.invokestatic 32, 3) := by decide +kernel
theorem dX5_wanted_9 : decode cX5_wanted 9 = .ok (.iconst 2, 1) := by decide +kernel
theorem dX5_wanted_10 : decode cX5_wanted 10 = .ok (.iadd, 1) := by decide +kernel
theorem dX5_wanted_11 : decode cX5_wanted 11 = .ok (.iaload, 1) := by decide +kernel
theorem dX5_wanted_12 : decode cX5_wanted 12 = .ok (.istore_n 3, 1) := by decide +kernel
theorem dX5_wanted_13 : decode cX5_wanted 13 = .ok (.iload_n 3, 1) := by decide +kernel
theorem dX5_wanted_14 : decode cX5_wanted 14 = .ok (.aload_n 0, 1) := by decide +kernel
theorem dX5_wanted_15 : decode cX5_wanted 15 = .ok (.getfield 7, 3) := by decide +kernel
theorem dX5_wanted_18 : decode cX5_wanted 18 = .ok (.iload_n 1, 1) := by decide +kernel
theorem dX5_wanted_19 : decode cX5_wanted 19 = .ok (.iconst 1, 1) := by decide +kernel
theorem dX5_wanted_20 : decode cX5_wanted 20 = .ok (.iadd, 1) := by decide +kernel
theorem dX5_wanted_21 : decode cX5_wanted 21 = .ok (.iaload, 1) := by decide +kernel
theorem dX5_wanted_22 : decode cX5_wanted 22 = .ok (.if_icmp .lt 7, 3) := by decide +kernel
theorem dX5_wanted_25 : decode cX5_wanted 25 = .ok (.iconst 0, 1) := by decide +kernel
theorem dX5_wanted_26 : decode cX5_wanted 26 = .ok (.goto 20, 3) := by decide +kernel
theorem dX5_wanted_29 : decode cX5_wanted 29 = .ok (.iload_n 3, 1) := by decide +kernel
theorem dX5_wanted_30 : decode cX5_wanted 30 = .ok (.aload_n 0, 1) := by decide +kernel
theorem dX5_wanted_31 : decode cX5_wanted 31 = .ok (.getfield 7, 3) := by decide +kernel
theorem dX5_wanted_34 : decode cX5_wanted 34 = .ok (.iload_n 1, 1) := by decide +kernel
theorem dX5_wanted_35 : decode cX5_wanted 35 = .ok (.iconst 2, 1) := by decide +kernel
theorem dX5_wanted_36 : decode cX5_wanted 36 = .ok (.iadd, 1) := by decide +kernel
theorem dX5_wanted_37 : decode cX5_wanted 37 = .ok (.iaload, 1) := by decide +kernel
theorem dX5_wanted_38 : decode cX5_wanted 38 = .ok (.if_icmp .lt 7, 3) := by decide +kernel
theorem dX5_wanted_41 : decode cX5_wanted 41 = .ok (.iconst 1, 1) := by decide +kernel
theorem dX5_wanted_42 : decode cX5_wanted 42 = .ok (.goto 4, 3) := by decide +kernel
theorem dX5_wanted_45 : decode cX5_wanted 45 = .ok (.iconst 2, 1) := by decide +kernel
theorem dX5_wanted_46 : decode cX5_wanted 46 = .ok (.ireturn, 1) := by decide +kernel
theorem dX5_target_0 : decode cX5_target 0 = .ok (.aload_n 0, 1) := by decide +kernel
theorem dX5_target_1 : decode cX5_target 1 = .ok (.getfield 7, 3) := by decide +kernel
theorem dX5_target_4 : decode cX5_target 4 = .ok (.iload_n 1, 1) := by decide +kernel
theorem dX5_target_5 : decode cX5_target 5 = .ok (.iload_n 2, 1) := by decide +kernel
theorem dX5_target_6 : decode cX5_target 6 = .ok (.invokestatic 32, 3) := by decide +kernel
theorem dX5_target_9 : decode cX5_target 9 = .ok (.iconst 1, 1) := by decide +kernel
theorem dX5_target_10 : decode cX5_target 10 = .ok (.iadd, 1) := by decide +kernel
theorem dX5_target_11 : decode cX5_target 11 = .ok (.iaload, 1) := by decide +kernel
theorem dX5_target_12 : decode cX5_target 12 = .ok (.istore_n 3, 1) := by decide +kernel
theorem dX5_target_13 : decode cX5_target 13 = .ok (.aload_n 0, 1) := by decide +kernel
theorem dX5_target_14 : decode cX5_target 14 = .ok (.iload_n 1, 1) := by decide +kernel
theorem dX5_target_15 : decode cX5_target 15 = .ok (.iload_n 2, 1) := by decide +kernel
theorem dX5_target_16 : decode cX5_target 16 = .ok (.invokevirtual 40, 3) := by decide +kernel
theorem dX5_target_19 : decode cX5_target 19 = .ok (.istore 4, 2) := by decide +kernel
theorem dX5_target_21 : decode cX5_target 21 = .ok (.aload_n 0, 1) := by decide +kernel
theorem dX5_target_22 : decode cX5_target 22 = .ok (.iload_n 1, 1) := by decide +kernel
theorem dX5_target_23 : decode cX5_target 23 = .ok (.iload 4, 2) := by decide +kernel
theorem dX5_target_25 : decode cX5_target 25 = .ok (.iload_n 3, 1) := by decide +kernel
theorem dX5_target_26 : decode cX5_target 26 = .ok (.invokevirtual 43, 3) := by decide +kernel
theorem dX5_target_29 : decode cX5_target 29 = .ok (.ifCond .eq 6, 3) := by decide +kernel
theorem dX5_target_32 : decode cX5_target 32 = .ok (.iload 4, 2) := by decide +kernel
theorem dX5_target_34 : decode cX5_target 34 = .ok (.ireturn, 1) := by decide +kernel
theorem dX5_target_35 : decode cX5_target 35 = .ok (.iload 4, 2) := by decide +kernel
theorem dX5_target_37 : decode cX5_target 37 = .ok (.aload_n 0, 1) := by decide +kernel
theorem dX5_target_38 : decode cX5_target 38 = .ok (.getfield 7, 3) := by decide +kernel
theorem dX5_target_41 : decode cX5_target 41 = .ok (.iload_n 1, 1) := by decide +kernel
theorem dX5_target_42 : decode cX5_target 42 = .ok (.iload_n 2, 1) := by decide +kernel
theorem dX5_target_43 : decode cX5_target 43 = .ok (.invokestatic 32, 3) := by decide +kernel
theorem dX5_target_46 : decode cX5_target 46 = .ok (.iconst 3, 1) := by decide +kernel
theorem dX5_target_47 : decode cX5_target 47 = .ok (.iadd, 1) := by decide +kernel
theorem dX5_target_48 : decode cX5_target 48 = .ok (.iaload, 1) := by decide +kernel
theorem dX5_target_49 : decode cX5_target 49 = .ok (.isub, 1) := by decide +kernel
theorem dX5_target_50 : decode cX5_target 50 = .ok (.iconst 2, 1) := by decide +kernel
theorem dX5_target_51 : decode cX5_target 51 = .ok (.if_icmp .eq 22, 3) := by decide +kernel
theorem dX5_target_54 : decode cX5_target 54 = .ok (.aload_n 0, 1) := by decide +kernel
theorem dX5_target_55 : decode cX5_target 55 = .ok (.getfield 7, 3) := by decide +kernel
theorem dX5_target_58 : decode cX5_target 58 = .ok (.iload_n 1, 1) := by decide +kernel
theorem dX5_target_59 : decode cX5_target 59 = .ok (.iload_n 2, 1) := by decide +kernel
theorem dX5_target_60 : decode cX5_target 60 = .ok (.invokestatic 32, 3) := by decide +kernel
theorem dX5_target_63 : decode cX5_target 63 = .ok (.iconst 3, 1) := by decide +kernel
theorem dX5_target_64 : decode cX5_target 64 = .ok (.iadd, 1) := by decide +kernel
theorem dX5_target_65 : decode cX5_target 65 = .ok (.iaload, 1) := by decide +kernel
theorem dX5_target_66 : decode cX5_target 66 = .ok (.iload 4, 2) := by decide +kernel
theorem dX5_target_68 : decode cX5_target 68 = .ok (.isub, 1) := by decide +kernel
theorem dX5_target_69 : decode cX5_target 69 = .ok (.iconst 2, 1) := by decide +kernel
theorem dX5_target_70 : decode cX5_target 70 = .ok (.if_icmp .ne 7, 3) := by decide +kernel
theorem dX5_target_73 : decode cX5_target 73 = .ok (.iconst 1, 1) := by decide +kernel
theorem dX5_target_74 : decode cX5_target 74 = .ok (.goto 4, 3) := by decide +kernel
theorem dX5_target_77 : decode cX5_target 77 = .ok (.iconst 0, 1) := by decide +kernel
theorem dX5_target_78 : decode cX5_target 78 = .ok (.istore 5, 2) := by decide +kernel
theorem dX5_target_80 : decode cX5_target 80 = .ok (.iload 5, 2) := by decide +kernel
theorem dX5_target_82 : decode cX5_target 82 = .ok (.ifCond .eq 17, 3) := by decide +kernel
theorem dX5_target_85 : decode cX5_target 85 = .ok (.aload_n 0, 1) := by decide +kernel
theorem dX5_target_86 : decode cX5_target 86 = .ok (.iload_n 1, 1) := by decide +kernel
theorem dX5_target_87 : decode cX5_target 87 = .ok (.iconst 1, 1) := by decide +kernel
theorem dX5_target_88 : decode cX5_target 88 = .ok (.iload_n 3, 1) := by decide +kernel
theorem dX5_target_89 : decode cX5_target 89 = .ok (.invokevirtual 43, 3) := by decide +kernel
theorem dX5_target_92 : decode cX5_target 92 = .ok (.ifCond .eq 7, 3) := by decide +kernel
theorem dX5_target_95 : decode cX5_target 95 = .ok (.iconst 1, 1) := by decide +kernel
theorem dX5_target_96 : decode cX5_target 96 = .ok (.goto 5, 3) := by decide +kernel
theorem dX5_target_99 : decode cX5_target 99 = .ok (.bipush (-5), 2) := by decide +kernel
theorem dX5_target_101 : decode cX5_target 101 = .ok (.ireturn, 1) := by decide +kernel
theorem dX5_next_0 : decode cX5_next 0 = .ok (.bipush (-5), 2) := by decide +kernel
theorem dX5_next_2 : decode cX5_next 2 = .ok (.istore_n 3, 1) := by decide +kernel
theorem dX5_next_3 : decode cX5_next 3 = .ok (.iconst 0, 1) := by decide +kernel
theorem dX5_next_4 : decode cX5_next 4 = .ok (.istore 4, 2) := by decide +kernel
theorem dX5_next_6 : decode cX5_next 6 = .ok (.iload 4, 2) := by decide +kernel
theorem dX5_next_8 : decode cX5_next 8 = .ok (.aload_n 0, 1) := by decide +kernel
theorem dX5_next_9 : decode cX5_next 9 = .ok (.getfield 7, 3) := by decide +kernel
theorem dX5_next_12 : decode cX5_next 12 = .ok (.iload_n 1, 1) := by decide +kernel
theorem dX5_next_13 : decode cX5_next 13 = .ok (.bipush 15, 2) := by decide +kernel
theorem dX5_next_15 : decode cX5_next 15 = .ok (.iadd, 1) := by decide +kernel
theorem dX5_next_16 : decode cX5_next 16 = .ok (.iaload, 1) := by decide +kernel
theorem dX5_next_17 : decode cX5_next 17 = .ok (.if_icmp .ge 132, 3) := by decide +kernel
theorem dX5_next_20 : decode cX5_next 20 = .ok (.aload_n 0, 1) := by decide +kernel
theorem dX5_next_21 : decode cX5_next 21 = .ok (.getfield 22, 3) := by decide +kernel
theorem dX5_next_24 : decode cX5_next 24 = .ok (.iload 4, 2) := by decide +kernel
theorem dX5_next_26 : decode cX5_next 26 = .ok (.iaload, 1) := by decide +kernel
theorem dX5_next_27 : decode cX5_next 27 = .ok (.iconst (-1), 1) := by decide +kernel
theorem dX5_next_28 : decode cX5_next 28 = .ok (.if_icmp .ne 39, 3) := by decide +kernel
theorem dX5_next_31 : decode cX5_next 31 = .ok (.aload_n 0, 1) := by decide +kernel
theorem dX5_next_32 : decode cX5_next 32 = .ok (.iload_n 1, 1) := by decide +kernel
theorem dX5_next_33 : decode cX5_next 33 = .ok (.iload 4, 2) := by decide +kernel
theorem dX5_next_35 : decode cX5_next 35 = .ok (.invokevirtual 40, 3) := by decide +kernel
theorem dX5_next_38 : decode cX5_next 38 = .ok (.aload_n 0, 1) := by decide +kernel
theorem dX5_next_39 : decode cX5_next 39 = .ok (.getfield 7, 3) := by decide +kernel
theorem dX5_next_42 : decode cX5_next 42 = .ok (.iload_n 1, 1) := by decide +kernel
theorem dX5_next_43 : decode cX5_next 43 = .ok (.iload 4, 2) := by decide +kernel
theorem dX5_next_45 : decode cX5_next 45 = .ok (.invokestatic 32, 3) := by decide +kernel
theorem dX5_next_48 : decode cX5_next 48 = .ok (.iconst 3, 1) := by decide +kernel
theorem dX5_next_49 : decode cX5_next 49 = .ok (.iadd, 1) := by decide +kernel
theorem dX5_next_50 : decode cX5_next 50 = .ok (.iaload, 1) := by decide +kernel
theorem dX5_next_51 : decode cX5_next 51 = .ok (.if_icmp .le 7, 3) := by decide +kernel
theorem dX5_next_54 : decode cX5_next 54 = .ok (.iconst 1, 1) := by decide +kernel
theorem dX5_next_55 : decode cX5_next 55 = .ok (.goto 4, 3) := by decide +kernel
theorem dX5_next_58 : decode cX5_next 58 = .ok (.iconst 0, 1) := by decide +kernel
theorem dX5_next_59 : decode cX5_next 59 = .ok (.iload_n 2, 1) := by decide +kernel
theorem dX5_next_60 : decode cX5_next 60 = .ok (.if_icmp .ne 7, 3) := by decide +kernel
theorem dX5_next_63 : decode cX5_next 63 = .ok (.iconst 1, 1) := by decide +kernel
theorem dX5_next_64 : decode cX5_next 64 = .ok (.goto 4, 3) := by decide +kernel
theorem dX5_next_67 : decode cX5_next 67 = .ok (.iconst 0, 1) := by decide +kernel
theorem dX5_next_68 : decode cX5_next 68 = .ok (.istore 5, 2) := by decide +kernel
theorem dX5_next_70 : decode cX5_next 70 = .ok (.iload_n 3, 1) := by decide +kernel
theorem dX5_next_71 : decode cX5_next 71 = .ok (.bipush (-5), 2) := by decide +kernel
theorem dX5_next_73 : decode cX5_next 73 = .ok (.if_icmp .ne 7, 3) := by decide +kernel
theorem dX5_next_76 : decode cX5_next 76 = .ok (.iconst 0, 1) := by decide +kernel
theorem dX5_next_77 : decode cX5_next 77 = .ok (.goto 29, 3) := by decide +kernel
theorem dX5_next_80 : decode cX5_next 80 = .ok (.aload_n 0, 1) := by decide +kernel
theorem dX5_next_81 : decode cX5_next 81 = .ok (.getfield 7, 3) := by decide +kernel
theorem dX5_next_84 : decode cX5_next 84 = .ok (.iload_n 1, 1) := by decide +kernel
theorem dX5_next_85 : decode cX5_next 85 = .ok (.iload 4, 2) := by decide +kernel
theorem dX5_next_87 : decode cX5_next 87 = .ok (.invokestatic 32, 3) := by decide +kernel
theorem dX5_next_90 : decode cX5_next 90 = .ok (.iconst 2, 1) := by decide +kernel
theorem dX5_next_91 : decode cX5_next 91 = .ok (.iadd, 1) := by decide +kernel
theorem dX5_next_92 : decode cX5_next 92 = .ok (.iaload, 1) := by decide +kernel
theorem dX5_next_93 : decode cX5_next 93 = .ok (.aload_n 0, 1) := by decide +kernel
theorem dX5_next_94 : decode cX5_next 94 = .ok (.getfield 7, 3) := by decide +kernel
theorem dX5_next_97 : decode cX5_next 97 = .ok (.iload_n 1, 1) := by decide +kernel
theorem dX5_next_98 : decode cX5_next 98 = .ok (.iload_n 3, 1) := by decide +kernel
theorem dX5_next_99 : decode cX5_next 99 = .ok (.invokestatic 32, 3) := by decide +kernel
theorem dX5_next_102 : decode cX5_next 102 = .ok (.iconst 2, 1) := by decide +kernel
theorem dX5_next_103 : decode cX5_next 103 = .ok (.iadd, 1) := by decide +kernel
theorem dX5_next_104 : decode cX5_next 104 = .ok (.iaload, 1) := by decide +kernel
theorem dX5_next_105 : decode cX5_next 105 = .ok (.isub, 1) := by decide +kernel
theorem dX5_next_106 : decode cX5_next 106 = .ok (.istore 6, 2) := by decide +kernel
theorem dX5_next_108 : decode cX5_next 108 = .ok (.iload 5, 2) := by decide +kernel
theorem dX5_next_110 : decode cX5_next 110 = .ok (.ifCond .eq 31, 3) := by decide +kernel
theorem dX5_next_113 : decode cX5_next 113 = .ok (.iload_n 3, 1) := by decide +kernel
theorem dX5_next_114 : decode cX5_next 114 = .ok (.bipush (-5), 2) := by decide +kernel
theorem dX5_next_116 : decode cX5_next 116 = .ok (.if_icmp .eq 20, 3) := by decide +kernel
theorem dX5_next_119 : decode cX5_next 119 = .ok (.iload_n 2, 1) := by decide +kernel
theorem dX5_next_120 : decode cX5_next 120 = .ok (.ifCond .eq 11, 3) := by decide +kernel
theorem dX5_next_123 : decode cX5_next 123 = .ok (.iload 6, 2) := by decide +kernel
theorem dX5_next_125 : decode cX5_next 125 = .ok (.ifCond .ge 16, 3) := by decide +kernel
theorem dX5_next_128 : decode cX5_next 128 = .ok (.goto 8, 3) := by decide +kernel
theorem dX5_next_131 : decode cX5_next 131 = .ok (.iload 6, 2) := by decide +kernel
theorem dX5_next_133 : decode cX5_next 133 = .ok (.ifCond .le 8, 3) := by decide +kernel
theorem dX5_next_136 : decode cX5_next 136 = .ok (.iload 4, 2) := by decide +kernel
theorem dX5_next_138 : decode cX5_next 138 = .ok (.goto 4, 3) := by decide +kernel
theorem dX5_next_141 : decode cX5_next 141 = .ok (.iload_n 3, 1) := by decide +kernel
theorem dX5_next_142 : decode cX5_next 142 = .ok (.istore_n 3, 1) := by decide +kernel
theorem dX5_next_143 : decode cX5_next 143 = .ok (.iinc 4 1, 3) := by decide +kernel
theorem dX5_next_146 : decode cX5_next 146 = .ok (.goto (-140), 3) := by decide +kernel
theorem dX5_next_149 : decode cX5_next 149 = .ok (.iload_n 3, 1) := by decide +kernel
theorem dX5_next_150 : decode cX5_next 150 = .ok (.ireturn, 1) := by decide +kernel
theorem dX5_turns_0 : decode cX5_turns 0 = .ok (.iload_n 3, 1) := by decide +kernel
theorem dX5_turns_1 : decode cX5_turns 1 = .ok (.istore 4, 2) := by decide +kernel
theorem dX5_turns_3 : decode cX5_turns 3 = .ok (.aload_n 0, 1) := by decide +kernel
theorem dX5_turns_4 : decode cX5_turns 4 = .ok (.iload_n 1, 1) := by decide +kernel
theorem dX5_turns_5 : decode cX5_turns 5 = .ok (.iload_n 2, 1) := by decide +kernel
theorem dX5_turns_6 : decode cX5_turns 6 = .ok (.invokevirtual 47, 3) := by decide +kernel
theorem dX5_turns_9 : decode cX5_turns 9 = .ok (.istore 5, 2) := by decide +kernel
theorem dX5_turns_11 : decode cX5_turns 11 = .ok (.iload 5, 2) := by decide +kernel
theorem dX5_turns_13 : decode cX5_turns 13 = .ok (.bipush (-5), 2) := by decide +kernel
theorem dX5_turns_15 : decode cX5_turns 15 = .ok (.if_icmp .eq 151, 3) := by decide +kernel
theorem dX5_turns_18 : decode cX5_turns 18 = .ok (.iload 4, 2) := by decide +kernel
theorem dX5_turns_20 : decode cX5_turns 20 = .ok (.aload_n 0, 1) := by decide +kernel
theorem dX5_turns_21 : decode cX5_turns 21 = .ok (.getfield 7, 3) := by decide +kernel
theorem dX5_turns_24 : decode cX5_turns 24 = .ok (.iload_n 1, 1) := by decide +kernel
theorem dX5_turns_25 : decode cX5_turns 25 = .ok (.iconst 3, 1) := by decide +kernel
theorem dX5_turns_26 : decode cX5_turns 26 = .ok (.iadd, 1) := by decide +kernel
theorem dX5_turns_27 : decode cX5_turns 27 = .ok (.iaload, 1) := by decide +kernel
theorem dX5_turns_28 : decode cX5_turns 28 = .ok (.if_icmp .ge 13, 3) := by decide +kernel
theorem dX5_turns_31 : decode cX5_turns 31 = .ok (.aload_n 0, 1) := by decide +kernel
theorem dX5_turns_32 : decode cX5_turns 32 = .ok (.iload_n 1, 1) := by decide +kernel
theorem dX5_turns_33 : decode cX5_turns 33 = .ok (.iload 5, 2) := by decide +kernel
theorem dX5_turns_35 : decode cX5_turns 35 = .ok (.invokevirtual 51, 3) := by decide +kernel
theorem dX5_turns_38 : decode cX5_turns 38 = .ok (.goto 5, 3) := by decide +kernel
theorem dX5_turns_41 : decode cX5_turns 41 = .ok (.bipush (-5), 2) := by decide +kernel
theorem dX5_turns_43 : decode cX5_turns 43 = .ok (.istore 6, 2) := by decide +kernel
theorem dX5_turns_45 : decode cX5_turns 45 = .ok (.aload_n 0, 1) := by decide +kernel
theorem dX5_turns_46 : decode cX5_turns 46 = .ok (.getfield 22, 3) := by decide +kernel
theorem dX5_turns_49 : decode cX5_turns 49 = .ok (.iload 5, 2) := by decide +kernel
theorem dX5_turns_51 : decode cX5_turns 51 = .ok (.iload 4, 2) := by decide +kernel
theorem dX5_turns_53 : decode cX5_turns 53 = .ok (.aload_n 0, 1) := by decide +kernel
theorem dX5_turns_54 : decode cX5_turns 54 = .ok (.getfield 7, 3) := by decide +kernel
theorem dX5_turns_57 : decode cX5_turns 57 = .ok (.iload_n 1, 1) := by decide +kernel
theorem dX5_turns_58 : decode cX5_turns 58 = .ok (.iconst 3, 1) := by decide +kernel
theorem dX5_turns_59 : decode cX5_turns 59 = .ok (.iadd, 1) := by decide +kernel
theorem dX5_turns_60 : decode cX5_turns 60 = .ok (.iaload, 1) := by decide +kernel
theorem dX5_turns_61 : decode cX5_turns 61 = .ok (.if_icmp .ne 7, 3) := by decide +kernel
theorem dX5_turns_64 : decode cX5_turns 64 = .ok (.iconst 4, 1) := by decide +kernel
theorem dX5_turns_65 : decode cX5_turns 65 = .ok (.goto 15, 3) := by decide +kernel
theorem dX5_turns_68 : decode cX5_turns 68 = .ok (.iload 6, 2) := by decide +kernel
theorem dX5_turns_70 : decode cX5_turns 70 = .ok (.bipush (-5), 2) := by decide +kernel
theorem dX5_turns_72 : decode cX5_turns 72 = .ok (.if_icmp .ne 7, 3) := by decide +kernel
theorem dX5_turns_75 : decode cX5_turns 75 = .ok (.iconst 5, 1) := by decide +kernel
theorem dX5_turns_76 : decode cX5_turns 76 = .ok (.goto 4, 3) := by decide +kernel
theorem dX5_turns_79 : decode cX5_turns 79 = .ok (.iconst 0, 1) := by decide +kernel
theorem dX5_turns_80 : decode cX5_turns 80 = .ok (.iastore, 1) := by decide +kernel
theorem dX5_turns_81 : decode cX5_turns 81 = .ok (.iload 6, 2) := by decide +kernel
theorem dX5_turns_83 : decode cX5_turns 83 = .ok (.bipush (-5), 2) := by decide +kernel
theorem dX5_turns_85 : decode cX5_turns 85 = .ok (.if_icmp .eq 70, 3) := by decide +kernel
theorem dX5_turns_88 : decode cX5_turns 88 = .ok (.aload_n 0, 1) := by decide +kernel
theorem dX5_turns_89 : decode cX5_turns 89 = .ok (.getfield 7, 3) := by decide +kernel
theorem dX5_turns_92 : decode cX5_turns 92 = .ok (.iload_n 1, 1) := by decide +kernel
theorem dX5_turns_93 : decode cX5_turns 93 = .ok (.iload 5, 2) := by decide +kernel
theorem dX5_turns_95 : decode cX5_turns 95 = .ok (.invokestatic 32, 3) := by decide +kernel
theorem dX5_turns_98 : decode cX5_turns 98 = .ok (.iconst 3, 1) := by decide +kernel
theorem dX5_turns_99 : decode cX5_turns 99 = .ok (.iadd, 1) := by decide +kernel
theorem dX5_turns_100 : decode cX5_turns 100 = .ok (.iload 6, 2) := by decide +kernel
theorem dX5_turns_102 : decode cX5_turns 102 = .ok (.iastore, 1) := by decide +kernel
theorem dX5_turns_103 : decode cX5_turns 103 = .ok (.aload_n 0, 1) := by decide +kernel
theorem dX5_turns_104 : decode cX5_turns 104 = .ok (.getfield 7, 3) := by decide +kernel
theorem dX5_turns_107 : decode cX5_turns 107 = .ok (.iload_n 1, 1) := by decide +kernel
theorem dX5_turns_108 : decode cX5_turns 108 = .ok (.iload 5, 2) := by decide +kernel
theorem dX5_turns_110 : decode cX5_turns 110 = .ok (.invokestatic 32, 3) := by decide +kernel
theorem dX5_turns_113 : decode cX5_turns 113 = .ok (.iconst 5, 1) := by decide +kernel
theorem dX5_turns_114 : decode cX5_turns 114 = .ok (.iadd, 1) := by decide +kernel
theorem dX5_turns_115 : decode cX5_turns 115 = .ok (.iload 6, 2) := by decide +kernel
theorem dX5_turns_117 : decode cX5_turns 117 = .ok (.iconst 2, 1) := by decide +kernel
theorem dX5_turns_118 : decode cX5_turns 118 = .ok (.if_icmp .ne 14, 3) := by decide +kernel
theorem dX5_turns_121 : decode cX5_turns 121 = .ok (.aload_n 0, 1) := by decide +kernel
theorem dX5_turns_122 : decode cX5_turns 122 = .ok (.getfield 7, 3) := by decide +kernel
theorem dX5_turns_125 : decode cX5_turns 125 = .ok (.iload_n 1, 1) := by decide +kernel
theorem dX5_turns_126 : decode cX5_turns 126 = .ok (.iconst 4, 1) := by decide +kernel
theorem dX5_turns_127 : decode cX5_turns 127 = .ok (.iadd, 1) := by decide +kernel
theorem dX5_turns_128 : decode cX5_turns 128 = .ok (.iaload, 1) := by decide +kernel
theorem dX5_turns_129 : decode cX5_turns 129 = .ok (.goto 4, 3) := by decide +kernel
theorem dX5_turns_132 : decode cX5_turns 132 = .ok (.iconst 0, 1) := by decide +kernel
theorem dX5_turns_133 : decode cX5_turns 133 = .ok (.iastore, 1) := by decide +kernel
theorem dX5_turns_134 : decode cX5_turns 134 = .ok (.aload_n 0, 1) := by decide +kernel
theorem dX5_turns_135 : decode cX5_turns 135 = .ok (.getfield 7, 3) := by decide +kernel
theorem dX5_turns_138 : decode cX5_turns 138 = .ok (.iload_n 1, 1) := by decide +kernel
theorem dX5_turns_139 : decode cX5_turns 139 = .ok (.iload 5, 2) := by decide +kernel
theorem dX5_turns_141 : decode cX5_turns 141 = .ok (.invokestatic 32, 3) := by decide +kernel
theorem dX5_turns_144 : decode cX5_turns 144 = .ok (.bipush 7, 2) := by decide +kernel
theorem dX5_turns_146 : decode cX5_turns 146 = .ok (.iadd, 1) := by decide +kernel
theorem dX5_turns_147 : decode cX5_turns 147 = .ok (.dup2, 1) := by decide +kernel
theorem dX5_turns_148 : decode cX5_turns 148 = .ok (.iaload, 1) := by decide +kernel
theorem dX5_turns_149 : decode cX5_turns 149 = .ok (.iconst 1, 1) := by decide +kernel
theorem dX5_turns_150 : decode cX5_turns 150 = .ok (.iadd, 1) := by decide +kernel
theorem dX5_turns_151 : decode cX5_turns 151 = .ok (.iastore, 1) := by decide +kernel
theorem dX5_turns_152 : decode cX5_turns 152 = .ok (.iinc 4 1, 3) := by decide +kernel
theorem dX5_turns_155 : decode cX5_turns 155 = .ok (.aload_n 0, 1) := by decide +kernel
theorem dX5_turns_156 : decode cX5_turns 156 = .ok (.iload_n 1, 1) := by decide +kernel
theorem dX5_turns_157 : decode cX5_turns 157 = .ok (.iload_n 2, 1) := by decide +kernel
theorem dX5_turns_158 : decode cX5_turns 158 = .ok (.invokevirtual 47, 3) := by decide +kernel
theorem dX5_turns_161 : decode cX5_turns 161 = .ok (.istore 5, 2) := by decide +kernel
theorem dX5_turns_163 : decode cX5_turns 163 = .ok (.goto (-152), 3) := by decide +kernel
theorem dX5_turns_166 : decode cX5_turns 166 = .ok (.iload 4, 2) := by decide +kernel
theorem dX5_turns_168 : decode cX5_turns 168 = .ok (.ireturn, 1) := by decide +kernel
theorem dX5_costs_0 : decode cX5_costs 0 = .ok (.aload_n 0, 1) := by decide +kernel
theorem dX5_costs_1 : decode cX5_costs 1 = .ok (.iload_n 1, 1) := by decide +kernel
theorem dX5_costs_2 : decode cX5_costs 2 = .ok (.iload_n 2, 1) := by decide +kernel
theorem dX5_costs_3 : decode cX5_costs 3 = .ok (.iconst 1, 1) := by decide +kernel
theorem dX5_costs_4 : decode cX5_costs 4 = .ok (.invokevirtual 36, 3) := by decide +kernel
theorem dX5_costs_7 : decode cX5_costs 7 = .ok (.aload_n 0, 1) := by decide +kernel
theorem dX5_costs_8 : decode cX5_costs 8 = .ok (.getfield 7, 3) := by decide +kernel
theorem dX5_costs_11 : decode cX5_costs 11 = .ok (.iload_n 1, 1) := by decide +kernel
theorem dX5_costs_12 : decode cX5_costs 12 = .ok (.bipush 9, 2) := by decide +kernel
theorem dX5_costs_14 : decode cX5_costs 14 = .ok (.iadd, 1) := by decide +kernel
theorem dX5_costs_15 : decode cX5_costs 15 = .ok (.iload_n 2, 1) := by decide +kernel
theorem dX5_costs_16 : decode cX5_costs 16 = .ok (.iadd, 1) := by decide +kernel
theorem dX5_costs_17 : decode cX5_costs 17 = .ok (.iaload, 1) := by decide +kernel
theorem dX5_costs_18 : decode cX5_costs 18 = .ok (.imul, 1) := by decide +kernel
theorem dX5_costs_19 : decode cX5_costs 19 = .ok (.ireturn, 1) := by decide +kernel
theorem dX5_passesOne_0 : decode cX5_passesOne 0 = .ok (.aload_n 0, 1) := by decide +kernel
theorem dX5_passesOne_1 : decode cX5_passesOne 1 = .ok (.getfield 7, 3) := by decide +kernel
theorem dX5_passesOne_4 : decode cX5_passesOne 4 = .ok (.iload_n 1, 1) := by decide +kernel
theorem dX5_passesOne_5 : decode cX5_passesOne 5 = .ok (.bipush 18, 2) := by decide +kernel
theorem dX5_passesOne_7 : decode cX5_passesOne 7 = .ok (.iadd, 1) := by decide +kernel
theorem dX5_passesOne_8 : decode cX5_passesOne 8 = .ok (.dup2, 1) := by decide +kernel
theorem dX5_passesOne_9 : decode cX5_passesOne 9 = .ok (.iaload, 1) := by decide +kernel
theorem dX5_passesOne_10 : decode cX5_passesOne 10 = .ok (.aload_n 0, 1) := by decide +kernel
theorem dX5_passesOne_11 : decode cX5_passesOne 11 = .ok (.iload_n 1, 1) := by decide +kernel
theorem dX5_passesOne_12 : decode cX5_passesOne 12 = .ok (.iconst 0, 1) := by decide +kernel
theorem dX5_passesOne_13 : decode cX5_passesOne 13 = .ok (.invokevirtual 54, 3) := by decide +kernel
theorem dX5_passesOne_16 : decode cX5_passesOne 16 = .ok (.aload_n 0, 1) := by decide +kernel
theorem dX5_passesOne_17 : decode cX5_passesOne 17 = .ok (.iload_n 1, 1) := by decide +kernel
theorem dX5_passesOne_18 : decode cX5_passesOne 18 = .ok (.iconst 1, 1) := by decide +kernel
theorem dX5_passesOne_19 : decode cX5_passesOne 19 = .ok (.invokevirtual 54, 3) := by decide +kernel
theorem dX5_passesOne_22 : decode cX5_passesOne 22 = .ok (.iadd, 1) := by decide +kernel
theorem dX5_passesOne_23 : decode cX5_passesOne 23 = .ok (.aload_n 0, 1) := by decide +kernel
theorem dX5_passesOne_24 : decode cX5_passesOne 24 = .ok (.iload_n 1, 1) := by decide +kernel
theorem dX5_passesOne_25 : decode cX5_passesOne 25 = .ok (.iconst 2, 1) := by decide +kernel
theorem dX5_passesOne_26 : decode cX5_passesOne 26 = .ok (.invokevirtual 54, 3) := by decide +kernel
theorem dX5_passesOne_29 : decode cX5_passesOne 29 = .ok (.iadd, 1) := by decide +kernel
theorem dX5_passesOne_30 : decode cX5_passesOne 30 = .ok (.iadd, 1) := by decide +kernel
theorem dX5_passesOne_31 : decode cX5_passesOne 31 = .ok (.iastore, 1) := by decide +kernel
theorem dX5_passesOne_32 : decode cX5_passesOne 32 = .ok (.iconst 0, 1) := by decide +kernel
theorem dX5_passesOne_33 : decode cX5_passesOne 33 = .ok (.istore_n 2, 1) := by decide +kernel
theorem dX5_passesOne_34 : decode cX5_passesOne 34 = .ok (.iload_n 2, 1) := by decide +kernel
theorem dX5_passesOne_35 : decode cX5_passesOne 35 = .ok (.aload_n 0, 1) := by decide +kernel
theorem dX5_passesOne_36 : decode cX5_passesOne 36 = .ok (.getfield 7, 3) := by decide +kernel
theorem dX5_passesOne_39 : decode cX5_passesOne 39 = .ok (.iload_n 1, 1) := by decide +kernel
theorem dX5_passesOne_40 : decode cX5_passesOne 40 = .ok (.bipush 15, 2) := by decide +kernel
theorem dX5_passesOne_42 : decode cX5_passesOne 42 = .ok (.iadd, 1) := by decide +kernel
theorem dX5_passesOne_43 : decode cX5_passesOne 43 = .ok (.iaload, 1) := by decide +kernel
theorem dX5_passesOne_44 : decode cX5_passesOne 44 = .ok (.if_icmp .ge 141, 3) := by decide +kernel
theorem dX5_passesOne_47 : decode cX5_passesOne 47 = .ok (.iload_n 1, 1) := by decide +kernel
theorem dX5_passesOne_48 : decode cX5_passesOne 48 = .ok (.iload_n 2, 1) := by decide +kernel
theorem dX5_passesOne_49 : decode cX5_passesOne 49 = .ok (.invokestatic 32, 3) := by decide +kernel
theorem dX5_passesOne_52 : decode cX5_passesOne 52 = .ok (.istore_n 3, 1) := by decide +kernel
theorem dX5_passesOne_53 : decode cX5_passesOne 53 = .ok (.aload_n 0, 1) := by decide +kernel
theorem dX5_passesOne_54 : decode cX5_passesOne 54 = .ok (.getfield 7, 3) := by decide +kernel
theorem dX5_passesOne_57 : decode cX5_passesOne 57 = .ok (.iload_n 3, 1) := by decide +kernel
theorem dX5_passesOne_58 : decode cX5_passesOne 58 = .ok (.iconst 2, 1) := by decide +kernel
theorem dX5_passesOne_59 : decode cX5_passesOne 59 = .ok (.iadd, 1) := by decide +kernel
theorem dX5_passesOne_60 : decode cX5_passesOne 60 = .ok (.aload_n 0, 1) := by decide +kernel
theorem dX5_passesOne_61 : decode cX5_passesOne 61 = .ok (.getfield 7, 3) := by decide +kernel
theorem dX5_passesOne_64 : decode cX5_passesOne 64 = .ok (.iload_n 3, 1) := by decide +kernel
theorem dX5_passesOne_65 : decode cX5_passesOne 65 = .ok (.iconst 2, 1) := by decide +kernel
theorem dX5_passesOne_66 : decode cX5_passesOne 66 = .ok (.iadd, 1) := by decide +kernel
theorem dX5_passesOne_67 : decode cX5_passesOne 67 = .ok (.iaload, 1) := by decide +kernel
theorem dX5_passesOne_68 : decode cX5_passesOne 68 = .ok (.aload_n 0, 1) := by decide +kernel
theorem dX5_passesOne_69 : decode cX5_passesOne 69 = .ok (.getfield 7, 3) := by decide +kernel
theorem dX5_passesOne_72 : decode cX5_passesOne 72 = .ok (.iload_n 1, 1) := by decide +kernel
theorem dX5_passesOne_73 : decode cX5_passesOne 73 = .ok (.iconst 0, 1) := by decide +kernel
theorem dX5_passesOne_74 : decode cX5_passesOne 74 = .ok (.iadd, 1) := by decide +kernel
theorem dX5_passesOne_75 : decode cX5_passesOne 75 = .ok (.iaload, 1) := by decide +kernel
theorem dX5_passesOne_76 : decode cX5_passesOne 76 = .ok (.imul, 1) := by decide +kernel
theorem dX5_passesOne_77 : decode cX5_passesOne 77 = .ok (.bipush 100, 2) := by decide +kernel
theorem dX5_passesOne_79 : decode cX5_passesOne 79 = .ok (.idiv, 1) := by decide +kernel
theorem dX5_passesOne_80 : decode cX5_passesOne 80 = .ok (.iastore, 1) := by decide +kernel
theorem dX5_passesOne_81 : decode cX5_passesOne 81 = .ok (.aload_n 0, 1) := by decide +kernel
theorem dX5_passesOne_82 : decode cX5_passesOne 82 = .ok (.getfield 7, 3) := by decide +kernel
theorem dX5_passesOne_85 : decode cX5_passesOne 85 = .ok (.iload_n 3, 1) := by decide +kernel
theorem dX5_passesOne_86 : decode cX5_passesOne 86 = .ok (.iconst 5, 1) := by decide +kernel
theorem dX5_passesOne_87 : decode cX5_passesOne 87 = .ok (.iadd, 1) := by decide +kernel
theorem dX5_passesOne_88 : decode cX5_passesOne 88 = .ok (.dup2, 1) := by decide +kernel
theorem dX5_passesOne_89 : decode cX5_passesOne 89 = .ok (.iaload, 1) := by decide +kernel
theorem dX5_passesOne_90 : decode cX5_passesOne 90 = .ok (.aload_n 0, 1) := by decide +kernel
theorem dX5_passesOne_91 : decode cX5_passesOne 91 = .ok (.getfield 7, 3) := by decide +kernel
theorem dX5_passesOne_94 : decode cX5_passesOne 94 = .ok (.iload_n 3, 1) := by decide +kernel
theorem dX5_passesOne_95 : decode cX5_passesOne 95 = .ok (.iconst 5, 1) := by decide +kernel
theorem dX5_passesOne_96 : decode cX5_passesOne 96 = .ok (.iadd, 1) := by decide +kernel
theorem dX5_passesOne_97 : decode cX5_passesOne 97 = .ok (.iaload, 1) := by decide +kernel
theorem dX5_passesOne_98 : decode cX5_passesOne 98 = .ok (.ifCond .le 7, 3) := by decide +kernel
theorem dX5_passesOne_101 : decode cX5_passesOne 101 = .ok (.iconst 1, 1) := by decide +kernel
theorem dX5_passesOne_102 : decode cX5_passesOne 102 = .ok (.goto 4, 3) := by decide +kernel
theorem dX5_passesOne_105 : decode cX5_passesOne 105 = .ok (.iconst 0, 1) := by decide +kernel
theorem dX5_passesOne_106 : decode cX5_passesOne 106 = .ok (.isub, 1) := by decide +kernel
theorem dX5_passesOne_107 : decode cX5_passesOne 107 = .ok (.iastore, 1) := by decide +kernel
theorem dX5_passesOne_108 : decode cX5_passesOne 108 = .ok (.aload_n 0, 1) := by decide +kernel
theorem dX5_passesOne_109 : decode cX5_passesOne 109 = .ok (.iload_n 1, 1) := by decide +kernel
theorem dX5_passesOne_110 : decode cX5_passesOne 110 = .ok (.iload_n 2, 1) := by decide +kernel
theorem dX5_passesOne_111 : decode cX5_passesOne 111 = .ok (.invokevirtual 40, 3) := by decide +kernel
theorem dX5_passesOne_114 : decode cX5_passesOne 114 = .ok (.aload_n 0, 1) := by decide +kernel
theorem dX5_passesOne_115 : decode cX5_passesOne 115 = .ok (.getfield 7, 3) := by decide +kernel
theorem dX5_passesOne_118 : decode cX5_passesOne 118 = .ok (.iload_n 3, 1) := by decide +kernel
theorem dX5_passesOne_119 : decode cX5_passesOne 119 = .ok (.iconst 3, 1) := by decide +kernel
theorem dX5_passesOne_120 : decode cX5_passesOne 120 = .ok (.iadd, 1) := by decide +kernel
theorem dX5_passesOne_121 : decode cX5_passesOne 121 = .ok (.iaload, 1) := by decide +kernel
theorem dX5_passesOne_122 : decode cX5_passesOne 122 = .ok (.if_icmp .ne 7, 3) := by decide +kernel
theorem dX5_passesOne_125 : decode cX5_passesOne 125 = .ok (.iconst 1, 1) := by decide +kernel
theorem dX5_passesOne_126 : decode cX5_passesOne 126 = .ok (.goto 4, 3) := by decide +kernel
theorem dX5_passesOne_129 : decode cX5_passesOne 129 = .ok (.iconst 0, 1) := by decide +kernel
theorem dX5_passesOne_130 : decode cX5_passesOne 130 = .ok (.istore 4, 2) := by decide +kernel
theorem dX5_passesOne_132 : decode cX5_passesOne 132 = .ok (.aload_n 0, 1) := by decide +kernel
theorem dX5_passesOne_133 : decode cX5_passesOne 133 = .ok (.getfield 22, 3) := by decide +kernel
theorem dX5_passesOne_136 : decode cX5_passesOne 136 = .ok (.iload_n 2, 1) := by decide +kernel
theorem dX5_passesOne_137 : decode cX5_passesOne 137 = .ok (.aload_n 0, 1) := by decide +kernel
theorem dX5_passesOne_138 : decode cX5_passesOne 138 = .ok (.getfield 7, 3) := by decide +kernel
theorem dX5_passesOne_141 : decode cX5_passesOne 141 = .ok (.iload_n 3, 1) := by decide +kernel
theorem dX5_passesOne_142 : decode cX5_passesOne 142 = .ok (.iconst 4, 1) := by decide +kernel
theorem dX5_passesOne_143 : decode cX5_passesOne 143 = .ok (.iadd, 1) := by decide +kernel
theorem dX5_passesOne_144 : decode cX5_passesOne 144 = .ok (.iaload, 1) := by decide +kernel
theorem dX5_passesOne_145 : decode cX5_passesOne 145 = .ok (.iconst 1, 1) := by decide +kernel
theorem dX5_passesOne_146 : decode cX5_passesOne 146 = .ok (.if_icmp .ne 7, 3) := by decide +kernel
theorem dX5_passesOne_149 : decode cX5_passesOne 149 = .ok (.iconst 1, 1) := by decide +kernel
theorem dX5_passesOne_150 : decode cX5_passesOne 150 = .ok (.goto 28, 3) := by decide +kernel
theorem dX5_passesOne_153 : decode cX5_passesOne 153 = .ok (.aload_n 0, 1) := by decide +kernel
theorem dX5_passesOne_154 : decode cX5_passesOne 154 = .ok (.getfield 7, 3) := by decide +kernel
theorem dX5_passesOne_157 : decode cX5_passesOne 157 = .ok (.iload_n 3, 1) := by decide +kernel
theorem dX5_passesOne_158 : decode cX5_passesOne 158 = .ok (.iconst 5, 1) := by decide +kernel
theorem dX5_passesOne_159 : decode cX5_passesOne 159 = .ok (.iadd, 1) := by decide +kernel
theorem dX5_passesOne_160 : decode cX5_passesOne 160 = .ok (.iaload, 1) := by decide +kernel
theorem dX5_passesOne_161 : decode cX5_passesOne 161 = .ok (.ifCond .le 7, 3) := by decide +kernel
theorem dX5_passesOne_164 : decode cX5_passesOne 164 = .ok (.iconst 2, 1) := by decide +kernel
theorem dX5_passesOne_165 : decode cX5_passesOne 165 = .ok (.goto 13, 3) := by decide +kernel
theorem dX5_passesOne_168 : decode cX5_passesOne 168 = .ok (.iload 4, 2) := by decide +kernel
theorem dX5_passesOne_170 : decode cX5_passesOne 170 = .ok (.ifCond .eq 7, 3) := by decide +kernel
theorem dX5_passesOne_173 : decode cX5_passesOne 173 = .ok (.iconst 3, 1) := by decide +kernel
theorem dX5_passesOne_174 : decode cX5_passesOne 174 = .ok (.goto 4, 3) := by decide +kernel
theorem dX5_passesOne_177 : decode cX5_passesOne 177 = .ok (.iconst (-1), 1) := by decide +kernel
theorem dX5_passesOne_178 : decode cX5_passesOne 178 = .ok (.iastore, 1) := by decide +kernel
theorem dX5_passesOne_179 : decode cX5_passesOne 179 = .ok (.iinc 2 1, 3) := by decide +kernel
theorem dX5_passesOne_182 : decode cX5_passesOne 182 = .ok (.goto (-148), 3) := by decide +kernel
theorem dX5_passesOne_185 : decode cX5_passesOne 185 = .ok (.aload_n 0, 1) := by decide +kernel
theorem dX5_passesOne_186 : decode cX5_passesOne 186 = .ok (.iload_n 1, 1) := by decide +kernel
theorem dX5_passesOne_187 : decode cX5_passesOne 187 = .ok (.iconst 1, 1) := by decide +kernel
theorem dX5_passesOne_188 : decode cX5_passesOne 188 = .ok (.iconst 0, 1) := by decide +kernel
theorem dX5_passesOne_189 : decode cX5_passesOne 189 = .ok (.invokevirtual 57, 3) := by decide +kernel
theorem dX5_passesOne_192 : decode cX5_passesOne 192 = .ok (.istore_n 2, 1) := by decide +kernel
theorem dX5_passesOne_193 : decode cX5_passesOne 193 = .ok (.aload_n 0, 1) := by decide +kernel
theorem dX5_passesOne_194 : decode cX5_passesOne 194 = .ok (.iload_n 1, 1) := by decide +kernel
theorem dX5_passesOne_195 : decode cX5_passesOne 195 = .ok (.iconst 0, 1) := by decide +kernel
theorem dX5_passesOne_196 : decode cX5_passesOne 196 = .ok (.iload_n 2, 1) := by decide +kernel
theorem dX5_passesOne_197 : decode cX5_passesOne 197 = .ok (.invokevirtual 57, 3) := by decide +kernel
theorem dX5_passesOne_200 : decode cX5_passesOne 200 = .ok (.istore_n 2, 1) := by decide +kernel
theorem dX5_passesOne_201 : decode cX5_passesOne 201 = .ok (.aload_n 0, 1) := by decide +kernel
theorem dX5_passesOne_202 : decode cX5_passesOne 202 = .ok (.getfield 7, 3) := by decide +kernel
theorem dX5_passesOne_205 : decode cX5_passesOne 205 = .ok (.iload_n 1, 1) := by decide +kernel
theorem dX5_passesOne_206 : decode cX5_passesOne 206 = .ok (.bipush 21, 2) := by decide +kernel
theorem dX5_passesOne_208 : decode cX5_passesOne 208 = .ok (.iadd, 1) := by decide +kernel
theorem dX5_passesOne_209 : decode cX5_passesOne 209 = .ok (.dup2, 1) := by decide +kernel
theorem dX5_passesOne_210 : decode cX5_passesOne 210 = .ok (.iaload, 1) := by decide +kernel
theorem dX5_passesOne_211 : decode cX5_passesOne 211 = .ok (.iload_n 2, 1) := by decide +kernel
theorem dX5_passesOne_212 : decode cX5_passesOne 212 = .ok (.iadd, 1) := by decide +kernel
theorem dX5_passesOne_213 : decode cX5_passesOne 213 = .ok (.iastore, 1) := by decide +kernel
theorem dX5_passesOne_214 : decode cX5_passesOne 214 = .ok (.aload_n 0, 1) := by decide +kernel
theorem dX5_passesOne_215 : decode cX5_passesOne 215 = .ok (.getfield 7, 3) := by decide +kernel
theorem dX5_passesOne_218 : decode cX5_passesOne 218 = .ok (.iload_n 1, 1) := by decide +kernel
theorem dX5_passesOne_219 : decode cX5_passesOne 219 = .ok (.bipush 17, 2) := by decide +kernel
theorem dX5_passesOne_221 : decode cX5_passesOne 221 = .ok (.iadd, 1) := by decide +kernel
theorem dX5_passesOne_222 : decode cX5_passesOne 222 = .ok (.dup2, 1) := by decide +kernel
theorem dX5_passesOne_223 : decode cX5_passesOne 223 = .ok (.iaload, 1) := by decide +kernel
theorem dX5_passesOne_224 : decode cX5_passesOne 224 = .ok (.iconst 1, 1) := by decide +kernel
theorem dX5_passesOne_225 : decode cX5_passesOne 225 = .ok (.iadd, 1) := by decide +kernel
theorem dX5_passesOne_226 : decode cX5_passesOne 226 = .ok (.iastore, 1) := by decide +kernel
theorem dX5_passesOne_227 : decode cX5_passesOne 227 = .ok (.iload_n 2, 1) := by decide +kernel
theorem dX5_passesOne_228 : decode cX5_passesOne 228 = .ok (.ireturn, 1) := by decide +kernel
theorem dX5_passes_0 : decode cX5_passes 0 = .ok (.iconst 0, 1) := by decide +kernel
theorem dX5_passes_1 : decode cX5_passes 1 = .ok (.istore_n 3, 1) := by decide +kernel
theorem dX5_passes_2 : decode cX5_passes 2 = .ok (.iconst 0, 1) := by decide +kernel
theorem dX5_passes_3 : decode cX5_passes 3 = .ok (.istore 4, 2) := by decide +kernel
theorem dX5_passes_5 : decode cX5_passes 5 = .ok (.iload 4, 2) := by decide +kernel
theorem dX5_passes_7 : decode cX5_passes 7 = .ok (.iload_n 2, 1) := by decide +kernel
theorem dX5_passes_8 : decode cX5_passes 8 = .ok (.if_icmp .ge 17, 3) := by decide +kernel
theorem dX5_passes_11 : decode cX5_passes 11 = .ok (.iload_n 3, 1) := by decide +kernel
theorem dX5_passes_12 : decode cX5_passes 12 = .ok (.aload_n 0, 1) := by decide +kernel
theorem dX5_passes_13 : decode cX5_passes 13 = .ok (.iload_n 1, 1) := by decide +kernel
theorem dX5_passes_14 : decode cX5_passes 14 = .ok (.invokevirtual 61, 3) := by decide +kernel
theorem dX5_passes_17 : decode cX5_passes 17 = .ok (.iadd, 1) := by decide +kernel
theorem dX5_passes_18 : decode cX5_passes 18 = .ok (.istore_n 3, 1) := by decide +kernel
theorem dX5_passes_19 : decode cX5_passes 19 = .ok (.iinc 4 1, 3) := by decide +kernel
theorem dX5_passes_22 : decode cX5_passes 22 = .ok (.goto (-17), 3) := by decide +kernel
theorem dX5_passes_25 : decode cX5_passes 25 = .ok (.iload_n 3, 1) := by decide +kernel
theorem dX5_passes_26 : decode cX5_passes 26 = .ok (.ireturn, 1) := by decide +kernel
theorem dX5_adds_0 : decode cX5_adds 0 = .ok (.iconst 0, 1) := by decide +kernel
theorem dX5_adds_1 : decode cX5_adds 1 = .ok (.istore_n 2, 1) := by decide +kernel
theorem dX5_adds_2 : decode cX5_adds 2 = .ok (.iload_n 2, 1) := by decide +kernel
theorem dX5_adds_3 : decode cX5_adds 3 = .ok (.iconst 3, 1) := by decide +kernel
theorem dX5_adds_4 : decode cX5_adds 4 = .ok (.if_icmp .ge 21, 3) := by decide +kernel
theorem dX5_adds_7 : decode cX5_adds 7 = .ok (.aload_n 0, 1) := by decide +kernel
theorem dX5_adds_8 : decode cX5_adds 8 = .ok (.sipush 215, 3) := by decide +kernel
theorem dX5_adds_11 : decode cX5_adds 11 = .ok (.iload_n 2, 1) := by decide +kernel
theorem dX5_adds_12 : decode cX5_adds 12 = .ok (.iload_n 1, 1) := by decide +kernel
theorem dX5_adds_13 : decode cX5_adds 13 = .ok (.invokevirtual 43, 3) := by decide +kernel
theorem dX5_adds_16 : decode cX5_adds 16 = .ok (.ifCond .ne 9, 3) := by decide +kernel
theorem dX5_adds_19 : decode cX5_adds 19 = .ok (.iinc 2 1, 3) := by decide +kernel
theorem dX5_adds_22 : decode cX5_adds 22 = .ok (.goto (-20), 3) := by decide +kernel
theorem dX5_adds_25 : decode cX5_adds 25 = .ok (.aload_n 0, 1) := by decide +kernel
theorem dX5_adds_26 : decode cX5_adds 26 = .ok (.getfield 7, 3) := by decide +kernel
theorem dX5_adds_29 : decode cX5_adds 29 = .ok (.sipush 230, 3) := by decide +kernel
theorem dX5_adds_32 : decode cX5_adds 32 = .ok (.iaload, 1) := by decide +kernel
theorem dX5_adds_33 : decode cX5_adds 33 = .ok (.bipush 24, 2) := by decide +kernel
theorem dX5_adds_35 : decode cX5_adds 35 = .ok (.if_icmp .eq 22, 3) := by decide +kernel
theorem dX5_adds_38 : decode cX5_adds 38 = .ok (.iload_n 2, 1) := by decide +kernel
theorem dX5_adds_39 : decode cX5_adds 39 = .ok (.iconst 3, 1) := by decide +kernel
theorem dX5_adds_40 : decode cX5_adds 40 = .ok (.if_icmp .eq 17, 3) := by decide +kernel
theorem dX5_adds_43 : decode cX5_adds 43 = .ok (.aload_n 0, 1) := by decide +kernel
theorem dX5_adds_44 : decode cX5_adds 44 = .ok (.getfield 7, 3) := by decide +kernel
theorem dX5_adds_47 : decode cX5_adds 47 = .ok (.sipush 231, 3) := by decide +kernel
theorem dX5_adds_50 : decode cX5_adds 50 = .ok (.iaload, 1) := by decide +kernel
theorem dX5_adds_51 : decode cX5_adds 51 = .ok (.sipush 999, 3) := by decide +kernel
theorem dX5_adds_54 : decode cX5_adds 54 = .ok (.if_icmp .le 6, 3) := by decide +kernel
theorem dX5_adds_57 : decode cX5_adds 57 = .ok (.bipush (-3), 2) := by decide +kernel
theorem dX5_adds_59 : decode cX5_adds 59 = .ok (.ireturn, 1) := by decide +kernel
theorem dX5_adds_60 : decode cX5_adds 60 = .ok (.sipush 215, 3) := by decide +kernel
theorem dX5_adds_63 : decode cX5_adds 63 = .ok (.aload_n 0, 1) := by decide +kernel
theorem dX5_adds_64 : decode cX5_adds 64 = .ok (.getfield 7, 3) := by decide +kernel
theorem dX5_adds_67 : decode cX5_adds 67 = .ok (.sipush 230, 3) := by decide +kernel
theorem dX5_adds_70 : decode cX5_adds 70 = .ok (.iaload, 1) := by decide +kernel
theorem dX5_adds_71 : decode cX5_adds 71 = .ok (.invokestatic 32, 3) := by decide +kernel
theorem dX5_adds_74 : decode cX5_adds 74 = .ok (.istore_n 3, 1) := by decide +kernel
theorem dX5_adds_75 : decode cX5_adds 75 = .ok (.iconst 0, 1) := by decide +kernel
theorem dX5_adds_76 : decode cX5_adds 76 = .ok (.istore 4, 2) := by decide +kernel
theorem dX5_adds_78 : decode cX5_adds 78 = .ok (.iload 4, 2) := by decide +kernel
theorem dX5_adds_80 : decode cX5_adds 80 = .ok (.bipush 8, 2) := by decide +kernel
theorem dX5_adds_82 : decode cX5_adds 82 = .ok (.if_icmp .ge 19, 3) := by decide +kernel
theorem dX5_adds_85 : decode cX5_adds 85 = .ok (.aload_n 0, 1) := by decide +kernel
theorem dX5_adds_86 : decode cX5_adds 86 = .ok (.getfield 7, 3) := by decide +kernel
theorem dX5_adds_89 : decode cX5_adds 89 = .ok (.iload_n 3, 1) := by decide +kernel
theorem dX5_adds_90 : decode cX5_adds 90 = .ok (.iload 4, 2) := by decide +kernel
theorem dX5_adds_92 : decode cX5_adds 92 = .ok (.iadd, 1) := by decide +kernel
theorem dX5_adds_93 : decode cX5_adds 93 = .ok (.iconst 0, 1) := by decide +kernel
theorem dX5_adds_94 : decode cX5_adds 94 = .ok (.iastore, 1) := by decide +kernel
theorem dX5_adds_95 : decode cX5_adds 95 = .ok (.iinc 4 1, 3) := by decide +kernel
theorem dX5_adds_98 : decode cX5_adds 98 = .ok (.goto (-20), 3) := by decide +kernel
theorem dX5_adds_101 : decode cX5_adds 101 = .ok (.aload_n 0, 1) := by decide +kernel
theorem dX5_adds_102 : decode cX5_adds 102 = .ok (.getfield 7, 3) := by decide +kernel
theorem dX5_adds_105 : decode cX5_adds 105 = .ok (.iload_n 3, 1) := by decide +kernel
theorem dX5_adds_106 : decode cX5_adds 106 = .ok (.aload_n 0, 1) := by decide +kernel
theorem dX5_adds_107 : decode cX5_adds 107 = .ok (.getfield 7, 3) := by decide +kernel
theorem dX5_adds_110 : decode cX5_adds 110 = .ok (.sipush 231, 3) := by decide +kernel
theorem dX5_adds_113 : decode cX5_adds 113 = .ok (.iaload, 1) := by decide +kernel
theorem dX5_adds_114 : decode cX5_adds 114 = .ok (.iastore, 1) := by decide +kernel
theorem dX5_adds_115 : decode cX5_adds 115 = .ok (.aload_n 0, 1) := by decide +kernel
theorem dX5_adds_116 : decode cX5_adds 116 = .ok (.getfield 7, 3) := by decide +kernel
theorem dX5_adds_119 : decode cX5_adds 119 = .ok (.iload_n 3, 1) := by decide +kernel
theorem dX5_adds_120 : decode cX5_adds 120 = .ok (.iconst 1, 1) := by decide +kernel
theorem dX5_adds_121 : decode cX5_adds 121 = .ok (.iadd, 1) := by decide +kernel
theorem dX5_adds_122 : decode cX5_adds 122 = .ok (.iload_n 1, 1) := by decide +kernel
theorem dX5_adds_123 : decode cX5_adds 123 = .ok (.iastore, 1) := by decide +kernel
theorem dX5_adds_124 : decode cX5_adds 124 = .ok (.aload_n 0, 1) := by decide +kernel
theorem dX5_adds_125 : decode cX5_adds 125 = .ok (.getfield 7, 3) := by decide +kernel
theorem dX5_adds_128 : decode cX5_adds 128 = .ok (.iload_n 3, 1) := by decide +kernel
theorem dX5_adds_129 : decode cX5_adds 129 = .ok (.iconst 2, 1) := by decide +kernel
theorem dX5_adds_130 : decode cX5_adds 130 = .ok (.iadd, 1) := by decide +kernel
theorem dX5_adds_131 : decode cX5_adds 131 = .ok (.sipush 1000, 3) := by decide +kernel
theorem dX5_adds_134 : decode cX5_adds 134 = .ok (.iastore, 1) := by decide +kernel
theorem dX5_adds_135 : decode cX5_adds 135 = .ok (.aload_n 0, 1) := by decide +kernel
theorem dX5_adds_136 : decode cX5_adds 136 = .ok (.getfield 7, 3) := by decide +kernel
theorem dX5_adds_139 : decode cX5_adds 139 = .ok (.iload_n 3, 1) := by decide +kernel
theorem dX5_adds_140 : decode cX5_adds 140 = .ok (.iconst 3, 1) := by decide +kernel
theorem dX5_adds_141 : decode cX5_adds 141 = .ok (.iadd, 1) := by decide +kernel
theorem dX5_adds_142 : decode cX5_adds 142 = .ok (.iload_n 2, 1) := by decide +kernel
theorem dX5_adds_143 : decode cX5_adds 143 = .ok (.iastore, 1) := by decide +kernel
theorem dX5_adds_144 : decode cX5_adds 144 = .ok (.aload_n 0, 1) := by decide +kernel
theorem dX5_adds_145 : decode cX5_adds 145 = .ok (.getfield 7, 3) := by decide +kernel
theorem dX5_adds_148 : decode cX5_adds 148 = .ok (.sipush 230, 3) := by decide +kernel
theorem dX5_adds_151 : decode cX5_adds 151 = .ok (.dup2, 1) := by decide +kernel
theorem dX5_adds_152 : decode cX5_adds 152 = .ok (.iaload, 1) := by decide +kernel
theorem dX5_adds_153 : decode cX5_adds 153 = .ok (.iconst 1, 1) := by decide +kernel
theorem dX5_adds_154 : decode cX5_adds 154 = .ok (.iadd, 1) := by decide +kernel
theorem dX5_adds_155 : decode cX5_adds 155 = .ok (.iastore, 1) := by decide +kernel
theorem dX5_adds_156 : decode cX5_adds 156 = .ok (.aload_n 0, 1) := by decide +kernel
theorem dX5_adds_157 : decode cX5_adds 157 = .ok (.getfield 7, 3) := by decide +kernel
theorem dX5_adds_160 : decode cX5_adds 160 = .ok (.sipush 231, 3) := by decide +kernel
theorem dX5_adds_163 : decode cX5_adds 163 = .ok (.dup2, 1) := by decide +kernel
theorem dX5_adds_164 : decode cX5_adds 164 = .ok (.iaload, 1) := by decide +kernel
theorem dX5_adds_165 : decode cX5_adds 165 = .ok (.iconst 1, 1) := by decide +kernel
theorem dX5_adds_166 : decode cX5_adds 166 = .ok (.iadd, 1) := by decide +kernel
theorem dX5_adds_167 : decode cX5_adds 167 = .ok (.iastore, 1) := by decide +kernel
theorem dX5_adds_168 : decode cX5_adds 168 = .ok (.aload_n 0, 1) := by decide +kernel
theorem dX5_adds_169 : decode cX5_adds 169 = .ok (.getfield 7, 3) := by decide +kernel
theorem dX5_adds_172 : decode cX5_adds 172 = .ok (.iload_n 3, 1) := by decide +kernel
theorem dX5_adds_173 : decode cX5_adds 173 = .ok (.iaload, 1) := by decide +kernel
theorem dX5_adds_174 : decode cX5_adds 174 = .ok (.ireturn, 1) := by decide +kernel
theorem dX5_removes_0 : decode cX5_removes 0 = .ok (.aload_n 0, 1) := by decide +kernel
theorem dX5_removes_1 : decode cX5_removes 1 = .ok (.sipush 215, 3) := by decide +kernel
theorem dX5_removes_4 : decode cX5_removes 4 = .ok (.iload_n 1, 1) := by decide +kernel
theorem dX5_removes_5 : decode cX5_removes 5 = .ok (.invokevirtual 65, 3) := by decide +kernel
theorem dX5_removes_8 : decode cX5_removes 8 = .ok (.istore_n 2, 1) := by decide +kernel
theorem dX5_removes_9 : decode cX5_removes 9 = .ok (.iload_n 2, 1) := by decide +kernel
theorem dX5_removes_10 : decode cX5_removes 10 = .ok (.bipush (-5), 2) := by decide +kernel
theorem dX5_removes_12 : decode cX5_removes 12 = .ok (.if_icmp .ne 5, 3) := by decide +kernel
theorem dX5_removes_15 : decode cX5_removes 15 = .ok (.iconst (-1), 1) := by decide +kernel
theorem dX5_removes_16 : decode cX5_removes 16 = .ok (.ireturn, 1) := by decide +kernel
theorem dX5_removes_17 : decode cX5_removes 17 = .ok (.aload_n 0, 1) := by decide +kernel
theorem dX5_removes_18 : decode cX5_removes 18 = .ok (.getfield 7, 3) := by decide +kernel
theorem dX5_removes_21 : decode cX5_removes 21 = .ok (.sipush 215, 3) := by decide +kernel
theorem dX5_removes_24 : decode cX5_removes 24 = .ok (.iload_n 2, 1) := by decide +kernel
theorem dX5_removes_25 : decode cX5_removes 25 = .ok (.invokestatic 32, 3) := by decide +kernel
theorem dX5_removes_28 : decode cX5_removes 28 = .ok (.iconst 3, 1) := by decide +kernel
theorem dX5_removes_29 : decode cX5_removes 29 = .ok (.iadd, 1) := by decide +kernel
theorem dX5_removes_30 : decode cX5_removes 30 = .ok (.iaload, 1) := by decide +kernel
theorem dX5_removes_31 : decode cX5_removes 31 = .ok (.istore_n 3, 1) := by decide +kernel
theorem dX5_removes_32 : decode cX5_removes 32 = .ok (.aload_n 0, 1) := by decide +kernel
theorem dX5_removes_33 : decode cX5_removes 33 = .ok (.getfield 7, 3) := by decide +kernel
theorem dX5_removes_36 : decode cX5_removes 36 = .ok (.sipush 230, 3) := by decide +kernel
theorem dX5_removes_39 : decode cX5_removes 39 = .ok (.dup2, 1) := by decide +kernel
theorem dX5_removes_40 : decode cX5_removes 40 = .ok (.iaload, 1) := by decide +kernel
theorem dX5_removes_41 : decode cX5_removes 41 = .ok (.iconst 1, 1) := by decide +kernel
theorem dX5_removes_42 : decode cX5_removes 42 = .ok (.isub, 1) := by decide +kernel
theorem dX5_removes_43 : decode cX5_removes 43 = .ok (.iastore, 1) := by decide +kernel
theorem dX5_removes_44 : decode cX5_removes 44 = .ok (.sipush 215, 3) := by decide +kernel
theorem dX5_removes_47 : decode cX5_removes 47 = .ok (.iload_n 2, 1) := by decide +kernel
theorem dX5_removes_48 : decode cX5_removes 48 = .ok (.invokestatic 32, 3) := by decide +kernel
theorem dX5_removes_51 : decode cX5_removes 51 = .ok (.istore 4, 2) := by decide +kernel
theorem dX5_removes_53 : decode cX5_removes 53 = .ok (.iload 4, 2) := by decide +kernel
theorem dX5_removes_55 : decode cX5_removes 55 = .ok (.sipush 215, 3) := by decide +kernel
theorem dX5_removes_58 : decode cX5_removes 58 = .ok (.aload_n 0, 1) := by decide +kernel
theorem dX5_removes_59 : decode cX5_removes 59 = .ok (.getfield 7, 3) := by decide +kernel
theorem dX5_removes_62 : decode cX5_removes 62 = .ok (.sipush 230, 3) := by decide +kernel
theorem dX5_removes_65 : decode cX5_removes 65 = .ok (.iaload, 1) := by decide +kernel
theorem dX5_removes_66 : decode cX5_removes 66 = .ok (.invokestatic 32, 3) := by decide +kernel
theorem dX5_removes_69 : decode cX5_removes 69 = .ok (.if_icmp .ge 26, 3) := by decide +kernel
theorem dX5_removes_72 : decode cX5_removes 72 = .ok (.aload_n 0, 1) := by decide +kernel
theorem dX5_removes_73 : decode cX5_removes 73 = .ok (.getfield 7, 3) := by decide +kernel
theorem dX5_removes_76 : decode cX5_removes 76 = .ok (.iload 4, 2) := by decide +kernel
theorem dX5_removes_78 : decode cX5_removes 78 = .ok (.aload_n 0, 1) := by decide +kernel
theorem dX5_removes_79 : decode cX5_removes 79 = .ok (.getfield 7, 3) := by decide +kernel
theorem dX5_removes_82 : decode cX5_removes 82 = .ok (.iload 4, 2) := by decide +kernel
theorem dX5_removes_84 : decode cX5_removes 84 = .ok (.bipush 8, 2) := by decide +kernel
theorem dX5_removes_86 : decode cX5_removes 86 = .ok (.iadd, 1) := by decide +kernel
theorem dX5_removes_87 : decode cX5_removes 87 = .ok (.iaload, 1) := by decide +kernel
theorem dX5_removes_88 : decode cX5_removes 88 = .ok (.iastore, 1) := by decide +kernel
theorem dX5_removes_89 : decode cX5_removes 89 = .ok (.iinc 4 1, 3) := by decide +kernel
theorem dX5_removes_92 : decode cX5_removes 92 = .ok (.goto (-39), 3) := by decide +kernel
theorem dX5_removes_95 : decode cX5_removes 95 = .ok (.iload_n 3, 1) := by decide +kernel
theorem dX5_removes_96 : decode cX5_removes 96 = .ok (.ireturn, 1) := by decide +kernel
theorem dX5_readsOne_0 : decode cX5_readsOne 0 = .ok (.aload_n 0, 1) := by decide +kernel
theorem dX5_readsOne_1 : decode cX5_readsOne 1 = .ok (.getfield 7, 3) := by decide +kernel
theorem dX5_readsOne_4 : decode cX5_readsOne 4 = .ok (.iload_n 1, 1) := by decide +kernel
theorem dX5_readsOne_5 : decode cX5_readsOne 5 = .ok (.iconst 1, 1) := by decide +kernel
theorem dX5_readsOne_6 : decode cX5_readsOne 6 = .ok (.iadd, 1) := by decide +kernel
theorem dX5_readsOne_7 : decode cX5_readsOne 7 = .ok (.iaload, 1) := by decide +kernel
theorem dX5_readsOne_8 : decode cX5_readsOne 8 = .ok (.istore_n 2, 1) := by decide +kernel
theorem dX5_readsOne_9 : decode cX5_readsOne 9 = .ok (.iload_n 2, 1) := by decide +kernel
theorem dX5_readsOne_10 : decode cX5_readsOne 10 = .ok (.aload_n 0, 1) := by decide +kernel
theorem dX5_readsOne_11 : decode cX5_readsOne 11 = .ok (.getfield 7, 3) := by decide +kernel
theorem dX5_readsOne_14 : decode cX5_readsOne 14 = .ok (.sipush 227, 3) := by decide +kernel
theorem dX5_readsOne_17 : decode cX5_readsOne 17 = .ok (.aload_n 0, 1) := by decide +kernel
theorem dX5_readsOne_18 : decode cX5_readsOne 18 = .ok (.getfield 7, 3) := by decide +kernel
theorem dX5_readsOne_21 : decode cX5_readsOne 21 = .ok (.iload_n 1, 1) := by decide +kernel
theorem dX5_readsOne_22 : decode cX5_readsOne 22 = .ok (.iconst 3, 1) := by decide +kernel
theorem dX5_readsOne_23 : decode cX5_readsOne 23 = .ok (.iadd, 1) := by decide +kernel
theorem dX5_readsOne_24 : decode cX5_readsOne 24 = .ok (.iaload, 1) := by decide +kernel
theorem dX5_readsOne_25 : decode cX5_readsOne 25 = .ok (.iadd, 1) := by decide +kernel
theorem dX5_readsOne_26 : decode cX5_readsOne 26 = .ok (.iaload, 1) := by decide +kernel
theorem dX5_readsOne_27 : decode cX5_readsOne 27 = .ok (.imul, 1) := by decide +kernel
theorem dX5_readsOne_28 : decode cX5_readsOne 28 = .ok (.istore_n 3, 1) := by decide +kernel
theorem dX5_readsOne_29 : decode cX5_readsOne 29 = .ok (.iconst 0, 1) := by decide +kernel
theorem dX5_readsOne_30 : decode cX5_readsOne 30 = .ok (.istore 4, 2) := by decide +kernel
theorem dX5_readsOne_32 : decode cX5_readsOne 32 = .ok (.aload_n 0, 1) := by decide +kernel
theorem dX5_readsOne_33 : decode cX5_readsOne 33 = .ok (.getfield 7, 3) := by decide +kernel
theorem dX5_readsOne_36 : decode cX5_readsOne 36 = .ok (.iload_n 1, 1) := by decide +kernel
theorem dX5_readsOne_37 : decode cX5_readsOne 37 = .ok (.iconst 2, 1) := by decide +kernel
theorem dX5_readsOne_38 : decode cX5_readsOne 38 = .ok (.iadd, 1) := by decide +kernel
theorem dX5_readsOne_39 : decode cX5_readsOne 39 = .ok (.aload_n 0, 1) := by decide +kernel
theorem dX5_readsOne_40 : decode cX5_readsOne 40 = .ok (.getfield 7, 3) := by decide +kernel
theorem dX5_readsOne_43 : decode cX5_readsOne 43 = .ok (.iload_n 1, 1) := by decide +kernel
theorem dX5_readsOne_44 : decode cX5_readsOne 44 = .ok (.iconst 2, 1) := by decide +kernel
theorem dX5_readsOne_45 : decode cX5_readsOne 45 = .ok (.iadd, 1) := by decide +kernel
theorem dX5_readsOne_46 : decode cX5_readsOne 46 = .ok (.iaload, 1) := by decide +kernel
theorem dX5_readsOne_47 : decode cX5_readsOne 47 = .ok (.sipush 1000, 3) := by decide +kernel
theorem dX5_readsOne_50 : decode cX5_readsOne 50 = .ok (.iadd, 1) := by decide +kernel
theorem dX5_readsOne_51 : decode cX5_readsOne 51 = .ok (.ldc 68, 2) := by decide +kernel
theorem dX5_readsOne_53 : decode cX5_readsOne 53 = .ok (.if_icmp .le 8, 3) := by decide +kernel
theorem dX5_readsOne_56 : decode cX5_readsOne 56 = .ok (.ldc 68, 2) := by decide +kernel
theorem dX5_readsOne_58 : decode cX5_readsOne 58 = .ok (.goto 15, 3) := by decide +kernel
theorem dX5_readsOne_61 : decode cX5_readsOne 61 = .ok (.aload_n 0, 1) := by decide +kernel
theorem dX5_readsOne_62 : decode cX5_readsOne 62 = .ok (.getfield 7, 3) := by decide +kernel
theorem dX5_readsOne_65 : decode cX5_readsOne 65 = .ok (.iload_n 1, 1) := by decide +kernel
theorem dX5_readsOne_66 : decode cX5_readsOne 66 = .ok (.iconst 2, 1) := by decide +kernel
theorem dX5_readsOne_67 : decode cX5_readsOne 67 = .ok (.iadd, 1) := by decide +kernel
theorem dX5_readsOne_68 : decode cX5_readsOne 68 = .ok (.iaload, 1) := by decide +kernel
theorem dX5_readsOne_69 : decode cX5_readsOne 69 = .ok (.sipush 1000, 3) := by decide +kernel
theorem dX5_readsOne_72 : decode cX5_readsOne 72 = .ok (.iadd, 1) := by decide +kernel
theorem dX5_readsOne_73 : decode cX5_readsOne 73 = .ok (.iastore, 1) := by decide +kernel
theorem dX5_readsOne_74 : decode cX5_readsOne 74 = .ok (.aload_n 0, 1) := by decide +kernel
theorem dX5_readsOne_75 : decode cX5_readsOne 75 = .ok (.getfield 7, 3) := by decide +kernel
theorem dX5_readsOne_78 : decode cX5_readsOne 78 = .ok (.iload_n 1, 1) := by decide +kernel
theorem dX5_readsOne_79 : decode cX5_readsOne 79 = .ok (.bipush 6, 2) := by decide +kernel
theorem dX5_readsOne_81 : decode cX5_readsOne 81 = .ok (.iadd, 1) := by decide +kernel
theorem dX5_readsOne_82 : decode cX5_readsOne 82 = .ok (.dup2, 1) := by decide +kernel
theorem dX5_readsOne_83 : decode cX5_readsOne 83 = .ok (.iaload, 1) := by decide +kernel
theorem dX5_readsOne_84 : decode cX5_readsOne 84 = .ok (.iconst 1, 1) := by decide +kernel
theorem dX5_readsOne_85 : decode cX5_readsOne 85 = .ok (.iadd, 1) := by decide +kernel
theorem dX5_readsOne_86 : decode cX5_readsOne 86 = .ok (.iastore, 1) := by decide +kernel
theorem dX5_readsOne_87 : decode cX5_readsOne 87 = .ok (.aload_n 0, 1) := by decide +kernel
theorem dX5_readsOne_88 : decode cX5_readsOne 88 = .ok (.getfield 7, 3) := by decide +kernel
theorem dX5_readsOne_91 : decode cX5_readsOne 91 = .ok (.iload_n 1, 1) := by decide +kernel
theorem dX5_readsOne_92 : decode cX5_readsOne 92 = .ok (.iconst 3, 1) := by decide +kernel
theorem dX5_readsOne_93 : decode cX5_readsOne 93 = .ok (.iadd, 1) := by decide +kernel
theorem dX5_readsOne_94 : decode cX5_readsOne 94 = .ok (.iaload, 1) := by decide +kernel
theorem dX5_readsOne_95 : decode cX5_readsOne 95 = .ok (.iconst 2, 1) := by decide +kernel
theorem dX5_readsOne_96 : decode cX5_readsOne 96 = .ok (.if_icmp .ne 113, 3) := by decide +kernel
theorem dX5_readsOne_99 : decode cX5_readsOne 99 = .ok (.iload_n 2, 1) := by decide +kernel
theorem dX5_readsOne_100 : decode cX5_readsOne 100 = .ok (.aload_n 0, 1) := by decide +kernel
theorem dX5_readsOne_101 : decode cX5_readsOne 101 = .ok (.getfield 7, 3) := by decide +kernel
theorem dX5_readsOne_104 : decode cX5_readsOne 104 = .ok (.sipush 220, 3) := by decide +kernel
theorem dX5_readsOne_107 : decode cX5_readsOne 107 = .ok (.iaload, 1) := by decide +kernel
theorem dX5_readsOne_108 : decode cX5_readsOne 108 = .ok (.imul, 1) := by decide +kernel
theorem dX5_readsOne_109 : decode cX5_readsOne 109 = .ok (.aload_n 0, 1) := by decide +kernel
theorem dX5_readsOne_110 : decode cX5_readsOne 110 = .ok (.getfield 7, 3) := by decide +kernel
theorem dX5_readsOne_113 : decode cX5_readsOne 113 = .ok (.iload_n 1, 1) := by decide +kernel
theorem dX5_readsOne_114 : decode cX5_readsOne 114 = .ok (.iconst 5, 1) := by decide +kernel
theorem dX5_readsOne_115 : decode cX5_readsOne 115 = .ok (.iadd, 1) := by decide +kernel
theorem dX5_readsOne_116 : decode cX5_readsOne 116 = .ok (.iaload, 1) := by decide +kernel
theorem dX5_readsOne_117 : decode cX5_readsOne 117 = .ok (.imul, 1) := by decide +kernel
theorem dX5_readsOne_118 : decode cX5_readsOne 118 = .ok (.istore 4, 2) := by decide +kernel
theorem dX5_readsOne_120 : decode cX5_readsOne 120 = .ok (.aload_n 0, 1) := by decide +kernel
theorem dX5_readsOne_121 : decode cX5_readsOne 121 = .ok (.getfield 7, 3) := by decide +kernel
theorem dX5_readsOne_124 : decode cX5_readsOne 124 = .ok (.iload_n 1, 1) := by decide +kernel
theorem dX5_readsOne_125 : decode cX5_readsOne 125 = .ok (.iconst 5, 1) := by decide +kernel
theorem dX5_readsOne_126 : decode cX5_readsOne 126 = .ok (.iadd, 1) := by decide +kernel
theorem dX5_readsOne_127 : decode cX5_readsOne 127 = .ok (.iconst 0, 1) := by decide +kernel
theorem dX5_readsOne_128 : decode cX5_readsOne 128 = .ok (.iastore, 1) := by decide +kernel
theorem dX5_readsOne_129 : decode cX5_readsOne 129 = .ok (.aload_n 0, 1) := by decide +kernel
theorem dX5_readsOne_130 : decode cX5_readsOne 130 = .ok (.getfield 7, 3) := by decide +kernel
theorem dX5_readsOne_133 : decode cX5_readsOne 133 = .ok (.sipush 237, 3) := by decide +kernel
theorem dX5_readsOne_136 : decode cX5_readsOne 136 = .ok (.dup2, 1) := by decide +kernel
theorem dX5_readsOne_137 : decode cX5_readsOne 137 = .ok (.iaload, 1) := by decide +kernel
theorem dX5_readsOne_138 : decode cX5_readsOne 138 = .ok (.iconst 1, 1) := by decide +kernel
theorem dX5_readsOne_139 : decode cX5_readsOne 139 = .ok (.iadd, 1) := by decide +kernel
theorem dX5_readsOne_140 : decode cX5_readsOne 140 = .ok (.iastore, 1) := by decide +kernel
theorem dX5_readsOne_141 : decode cX5_readsOne 141 = .ok (.aload_n 0, 1) := by decide +kernel
theorem dX5_readsOne_142 : decode cX5_readsOne 142 = .ok (.sipush 215, 3) := by decide +kernel
theorem dX5_readsOne_145 : decode cX5_readsOne 145 = .ok (.iconst 0, 1) := by decide +kernel
theorem dX5_readsOne_146 : decode cX5_readsOne 146 = .ok (.iload_n 2, 1) := by decide +kernel
theorem dX5_readsOne_147 : decode cX5_readsOne 147 = .ok (.invokevirtual 43, 3) := by decide +kernel
theorem dX5_readsOne_150 : decode cX5_readsOne 150 = .ok (.ifCond .eq 7, 3) := by decide +kernel
theorem dX5_readsOne_153 : decode cX5_readsOne 153 = .ok (.iconst 0, 1) := by decide +kernel
theorem dX5_readsOne_154 : decode cX5_readsOne 154 = .ok (.goto 20, 3) := by decide +kernel
theorem dX5_readsOne_157 : decode cX5_readsOne 157 = .ok (.aload_n 0, 1) := by decide +kernel
theorem dX5_readsOne_158 : decode cX5_readsOne 158 = .ok (.sipush 215, 3) := by decide +kernel
theorem dX5_readsOne_161 : decode cX5_readsOne 161 = .ok (.iconst 1, 1) := by decide +kernel
theorem dX5_readsOne_162 : decode cX5_readsOne 162 = .ok (.iload_n 2, 1) := by decide +kernel
theorem dX5_readsOne_163 : decode cX5_readsOne 163 = .ok (.invokevirtual 43, 3) := by decide +kernel
theorem dX5_readsOne_166 : decode cX5_readsOne 166 = .ok (.ifCond .eq 7, 3) := by decide +kernel
theorem dX5_readsOne_169 : decode cX5_readsOne 169 = .ok (.iconst 1, 1) := by decide +kernel
theorem dX5_readsOne_170 : decode cX5_readsOne 170 = .ok (.goto 4, 3) := by decide +kernel
theorem dX5_readsOne_173 : decode cX5_readsOne 173 = .ok (.iconst 2, 1) := by decide +kernel
theorem dX5_readsOne_174 : decode cX5_readsOne 174 = .ok (.istore 5, 2) := by decide +kernel
theorem dX5_readsOne_176 : decode cX5_readsOne 176 = .ok (.aload_n 0, 1) := by decide +kernel
theorem dX5_readsOne_177 : decode cX5_readsOne 177 = .ok (.getfield 7, 3) := by decide +kernel
theorem dX5_readsOne_180 : decode cX5_readsOne 180 = .ok (.iload_n 1, 1) := by decide +kernel
theorem dX5_readsOne_181 : decode cX5_readsOne 181 = .ok (.bipush 7, 2) := by decide +kernel
theorem dX5_readsOne_183 : decode cX5_readsOne 183 = .ok (.iadd, 1) := by decide +kernel
theorem dX5_readsOne_184 : decode cX5_readsOne 184 = .ok (.dup2, 1) := by decide +kernel
theorem dX5_readsOne_185 : decode cX5_readsOne 185 = .ok (.iaload, 1) := by decide +kernel
theorem dX5_readsOne_186 : decode cX5_readsOne 186 = .ok (.iload 5, 2) := by decide +kernel
theorem dX5_readsOne_188 : decode cX5_readsOne 188 = .ok (.iconst 2, 1) := by decide +kernel
theorem dX5_readsOne_189 : decode cX5_readsOne 189 = .ok (.if_icmp .ge 7, 3) := by decide +kernel
theorem dX5_readsOne_192 : decode cX5_readsOne 192 = .ok (.iconst 1, 1) := by decide +kernel
theorem dX5_readsOne_193 : decode cX5_readsOne 193 = .ok (.goto 4, 3) := by decide +kernel
theorem dX5_readsOne_196 : decode cX5_readsOne 196 = .ok (.iconst 0, 1) := by decide +kernel
theorem dX5_readsOne_197 : decode cX5_readsOne 197 = .ok (.iadd, 1) := by decide +kernel
theorem dX5_readsOne_198 : decode cX5_readsOne 198 = .ok (.iastore, 1) := by decide +kernel
theorem dX5_readsOne_199 : decode cX5_readsOne 199 = .ok (.aload_n 0, 1) := by decide +kernel
theorem dX5_readsOne_200 : decode cX5_readsOne 200 = .ok (.getfield 7, 3) := by decide +kernel
theorem dX5_readsOne_203 : decode cX5_readsOne 203 = .ok (.iload_n 1, 1) := by decide +kernel
theorem dX5_readsOne_204 : decode cX5_readsOne 204 = .ok (.iconst 3, 1) := by decide +kernel
theorem dX5_readsOne_205 : decode cX5_readsOne 205 = .ok (.iadd, 1) := by decide +kernel
theorem dX5_readsOne_206 : decode cX5_readsOne 206 = .ok (.iload 5, 2) := by decide +kernel
theorem dX5_readsOne_208 : decode cX5_readsOne 208 = .ok (.iastore, 1) := by decide +kernel
theorem dX5_readsOne_209 : decode cX5_readsOne 209 = .ok (.aload_n 0, 1) := by decide +kernel
theorem dX5_readsOne_210 : decode cX5_readsOne 210 = .ok (.getfield 7, 3) := by decide +kernel
theorem dX5_readsOne_213 : decode cX5_readsOne 213 = .ok (.sipush 234, 3) := by decide +kernel
theorem dX5_readsOne_216 : decode cX5_readsOne 216 = .ok (.dup2, 1) := by decide +kernel
theorem dX5_readsOne_217 : decode cX5_readsOne 217 = .ok (.iaload, 1) := by decide +kernel
theorem dX5_readsOne_218 : decode cX5_readsOne 218 = .ok (.iload_n 3, 1) := by decide +kernel
theorem dX5_readsOne_219 : decode cX5_readsOne 219 = .ok (.iadd, 1) := by decide +kernel
theorem dX5_readsOne_220 : decode cX5_readsOne 220 = .ok (.iastore, 1) := by decide +kernel
theorem dX5_readsOne_221 : decode cX5_readsOne 221 = .ok (.aload_n 0, 1) := by decide +kernel
theorem dX5_readsOne_222 : decode cX5_readsOne 222 = .ok (.getfield 7, 3) := by decide +kernel
theorem dX5_readsOne_225 : decode cX5_readsOne 225 = .ok (.sipush 235, 3) := by decide +kernel
theorem dX5_readsOne_228 : decode cX5_readsOne 228 = .ok (.dup2, 1) := by decide +kernel
theorem dX5_readsOne_229 : decode cX5_readsOne 229 = .ok (.iaload, 1) := by decide +kernel
theorem dX5_readsOne_230 : decode cX5_readsOne 230 = .ok (.iload 4, 2) := by decide +kernel
theorem dX5_readsOne_232 : decode cX5_readsOne 232 = .ok (.iadd, 1) := by decide +kernel
theorem dX5_readsOne_233 : decode cX5_readsOne 233 = .ok (.iastore, 1) := by decide +kernel
theorem dX5_readsOne_234 : decode cX5_readsOne 234 = .ok (.iload_n 3, 1) := by decide +kernel
theorem dX5_readsOne_235 : decode cX5_readsOne 235 = .ok (.iload 4, 2) := by decide +kernel
theorem dX5_readsOne_237 : decode cX5_readsOne 237 = .ok (.iadd, 1) := by decide +kernel
theorem dX5_readsOne_238 : decode cX5_readsOne 238 = .ok (.ireturn, 1) := by decide +kernel
theorem dX5_reads_0 : decode cX5_reads 0 = .ok (.aload_n 0, 1) := by decide +kernel
theorem dX5_reads_1 : decode cX5_reads 1 = .ok (.sipush 215, 3) := by decide +kernel
theorem dX5_reads_4 : decode cX5_reads 4 = .ok (.iload_n 1, 1) := by decide +kernel
theorem dX5_reads_5 : decode cX5_reads 5 = .ok (.invokevirtual 65, 3) := by decide +kernel
theorem dX5_reads_8 : decode cX5_reads 8 = .ok (.istore_n 3, 1) := by decide +kernel
theorem dX5_reads_9 : decode cX5_reads 9 = .ok (.iconst 0, 1) := by decide +kernel
theorem dX5_reads_10 : decode cX5_reads 10 = .ok (.istore 4, 2) := by decide +kernel
theorem dX5_reads_12 : decode cX5_reads 12 = .ok (.iconst 0, 1) := by decide +kernel
theorem dX5_reads_13 : decode cX5_reads 13 = .ok (.istore 5, 2) := by decide +kernel
theorem dX5_reads_15 : decode cX5_reads 15 = .ok (.iload 5, 2) := by decide +kernel
theorem dX5_reads_17 : decode cX5_reads 17 = .ok (.iload_n 2, 1) := by decide +kernel
theorem dX5_reads_18 : decode cX5_reads 18 = .ok (.if_icmp .ge 31, 3) := by decide +kernel
theorem dX5_reads_21 : decode cX5_reads 21 = .ok (.iload_n 3, 1) := by decide +kernel
theorem dX5_reads_22 : decode cX5_reads 22 = .ok (.bipush (-5), 2) := by decide +kernel
theorem dX5_reads_24 : decode cX5_reads 24 = .ok (.if_icmp .eq 25, 3) := by decide +kernel
theorem dX5_reads_27 : decode cX5_reads 27 = .ok (.iload 4, 2) := by decide +kernel
theorem dX5_reads_29 : decode cX5_reads 29 = .ok (.aload_n 0, 1) := by decide +kernel
theorem dX5_reads_30 : decode cX5_reads 30 = .ok (.sipush 215, 3) := by decide +kernel
theorem dX5_reads_33 : decode cX5_reads 33 = .ok (.iload_n 3, 1) := by decide +kernel
theorem dX5_reads_34 : decode cX5_reads 34 = .ok (.invokestatic 32, 3) := by decide +kernel
theorem dX5_reads_37 : decode cX5_reads 37 = .ok (.invokevirtual 69, 3) := by decide +kernel
theorem dX5_reads_40 : decode cX5_reads 40 = .ok (.iadd, 1) := by decide +kernel
theorem dX5_reads_41 : decode cX5_reads 41 = .ok (.istore 4, 2) := by decide +kernel
theorem dX5_reads_43 : decode cX5_reads 43 = .ok (.iinc 5 1, 3) := by decide +kernel
