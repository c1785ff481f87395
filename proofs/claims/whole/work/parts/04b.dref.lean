theorem dX13_init_0 : decode cX13_init 0 = .ok (.aload_n 0, 1) := by decide +kernel
theorem dX13_init_1 : decode cX13_init 1 = .ok (.invokespecial 1, 3) := by decide +kernel
theorem dX13_init_4 : decode cX13_init 4 = .ok (.aload_n 0, 1) := by decide +kernel
theorem dX13_init_5 : decode cX13_init 5 = .ok (.sipush 10002, 3) := by decide +kernel
theorem dX13_init_8 : decode cX13_init 8 = .ok (.newarray .int, 2) := by decide +kernel
theorem dX13_init_10 : decode cX13_init 10 = .ok (.putfield 7, 3) := by decide +kernel
theorem dX13_init_13 : decode cX13_init 13 = .ok (.aload_n 0, 1) := by decide +kernel
theorem dX13_init_14 : decode cX13_init 14 = .ok (.sipush 10002, 3) := by decide +kernel
theorem dX13_init_17 : decode cX13_init 17 = .ok (.newarray .int, 2) := by decide +kernel
theorem dX13_init_19 : decode cX13_init 19 = .ok (.putfield 13, 3) := by decide +kernel
theorem dX13_init_22 : decode cX13_init 22 = .ok (.aload_n 0, 1) := by decide +kernel
theorem dX13_init_23 : decode cX13_init 23 = .ok (.sipush 10002, 3) := by decide +kernel
theorem dX13_init_26 : decode cX13_init 26 = .ok (.newarray .int, 2) := by decide +kernel
theorem dX13_init_28 : decode cX13_init 28 = .ok (.putfield 16, 3) := by decide +kernel
theorem dX13_init_31 : decode cX13_init 31 = .ok (.aload_n 0, 1) := by decide +kernel
theorem dX13_init_32 : decode cX13_init 32 = .ok (.ldc 19, 2) := by decide +kernel
theorem dX13_init_34 : decode cX13_init 34 = .ok (.newarray .int, 2) := by decide +kernel
theorem dX13_init_36 : decode cX13_init 36 = .ok (.putfield 20, 3) := by decide +kernel
theorem dX13_init_39 : decode cX13_init 39 = .ok (.aload_n 0, 1) := by decide +kernel
theorem dX13_init_40 : decode cX13_init 40 = .ok (.sipush 200, 3) := by decide +kernel
theorem dX13_init_43 : decode cX13_init 43 = .ok (.newarray .boolean, 2) := by decide +kernel
theorem dX13_init_45 : decode cX13_init 45 = .ok (.putfield 23, 3) := by decide +kernel
theorem dX13_init_48 : decode cX13_init 48 = .ok (.aload_n 0, 1) := by decide +kernel
theorem dX13_init_49 : decode cX13_init 49 = .ok (.bipush 34, 2) := by decide +kernel
theorem dX13_init_51 : decode cX13_init 51 = .ok (.newarray .double, 2) := by decide +kernel
theorem dX13_init_53 : decode cX13_init 53 = .ok (.putfield 27, 3) := by decide +kernel
theorem dX13_init_56 : decode cX13_init 56 = .ok (.aload_n 0, 1) := by decide +kernel
theorem dX13_init_57 : decode cX13_init 57 = .ok (.sipush 4800, 3) := by decide +kernel
theorem dX13_init_60 : decode cX13_init 60 = .ok (.newarray .boolean, 2) := by decide +kernel
theorem dX13_init_62 : decode cX13_init 62 = .ok (.putfield 31, 3) := by decide +kernel
theorem dX13_init_65 : decode cX13_init 65 = .ok (.aload_n 0, 1) := by decide +kernel
theorem dX13_init_66 : decode cX13_init 66 = .ok (.bipush 88, 2) := by decide +kernel
theorem dX13_init_68 : decode cX13_init 68 = .ok (.newarray .int, 2) := by decide +kernel
theorem dX13_init_70 : decode cX13_init 70 = .ok (.putfield 34, 3) := by decide +kernel
theorem dX13_init_73 : decode cX13_init 73 = .ok (.aload_n 0, 1) := by decide +kernel
theorem dX13_init_74 : decode cX13_init 74 = .ok (.bipush 60, 2) := by decide +kernel
theorem dX13_init_76 : decode cX13_init 76 = .ok (.newarray .int, 2) := by decide +kernel
theorem dX13_init_78 : decode cX13_init 78 = .ok (.putfield 37, 3) := by decide +kernel
theorem dX13_init_81 : decode cX13_init 81 = .ok (.aload_n 0, 1) := by decide +kernel
theorem dX13_init_82 : decode cX13_init 82 = .ok (.iconst (-1), 1) := by decide +kernel
theorem dX13_init_83 : decode cX13_init 83 = .ok (.putfield 40, 3) := by decide +kernel
theorem dX13_init_86 : decode cX13_init 86 = .ok (.aload_n 0, 1) := by decide +kernel
theorem dX13_init_87 : decode cX13_init 87 = .ok (.sipush 160, 3) := by decide +kernel
theorem dX13_init_90 : decode cX13_init 90 = .ok (.newarray .int, 2) := by decide +kernel
theorem dX13_init_92 : decode cX13_init 92 = .ok (.putfield 44, 3) := by decide +kernel
theorem dX13_init_95 : decode cX13_init 95 = .ok (.aload_n 0, 1) := by decide +kernel
theorem dX13_init_96 : decode cX13_init 96 = .ok (.new 47, 3) := by decide +kernel
theorem dX13_init_99 : decode cX13_init 99 = .ok (.dup, 1) := by decide +kernel
theorem dX13_init_100 : decode cX13_init 100 = .ok (.invokespecial 49, 3) := by decide +kernel
theorem dX13_init_103 : decode cX13_init 103 = .ok (.putfield 50, 3) := by decide +kernel
theorem dX13_init_106 : decode cX13_init 106 = .ok (.aload_n 0, 1) := by decide +kernel
theorem dX13_init_107 : decode cX13_init 107 = .ok (.getfield 7, 3) := by decide +kernel
theorem dX13_init_110 : decode cX13_init 110 = .ok (.iconst 3, 1) := by decide +kernel
theorem dX13_init_111 : decode cX13_init 111 = .ok (.iconst 1, 1) := by decide +kernel
theorem dX13_init_112 : decode cX13_init 112 = .ok (.iastore, 1) := by decide +kernel
theorem dX13_init_113 : decode cX13_init 113 = .ok (.iconst 0, 1) := by decide +kernel
theorem dX13_init_114 : decode cX13_init 114 = .ok (.istore_n 1, 1) := by decide +kernel
theorem dX13_init_115 : decode cX13_init 115 = .ok (.iload_n 1, 1) := by decide +kernel
theorem dX13_init_116 : decode cX13_init 116 = .ok (.iconst 4, 1) := by decide +kernel
theorem dX13_init_117 : decode cX13_init 117 = .ok (.if_icmp .ge 53, 3) := by decide +kernel
theorem dX13_init_120 : decode cX13_init 120 = .ok (.aload_n 0, 1) := by decide +kernel
theorem dX13_init_121 : decode cX13_init 121 = .ok (.getfield 7, 3) := by decide +kernel
theorem dX13_init_124 : decode cX13_init 124 = .ok (.bipush 22, 2) := by decide +kernel
theorem dX13_init_126 : decode cX13_init 126 = .ok (.bipush 10, 2) := by decide +kernel
theorem dX13_init_128 : decode cX13_init 128 = .ok (.iload_n 1, 1) := by decide +kernel
theorem dX13_init_129 : decode cX13_init 129 = .ok (.imul, 1) := by decide +kernel
theorem dX13_init_130 : decode cX13_init 130 = .ok (.iadd, 1) := by decide +kernel
theorem dX13_init_131 : decode cX13_init 131 = .ok (.iconst 5, 1) := by decide +kernel
theorem dX13_init_132 : decode cX13_init 132 = .ok (.iastore, 1) := by decide +kernel
theorem dX13_init_133 : decode cX13_init 133 = .ok (.aload_n 0, 1) := by decide +kernel
theorem dX13_init_134 : decode cX13_init 134 = .ok (.getfield 7, 3) := by decide +kernel
theorem dX13_init_137 : decode cX13_init 137 = .ok (.bipush 22, 2) := by decide +kernel
theorem dX13_init_139 : decode cX13_init 139 = .ok (.bipush 10, 2) := by decide +kernel
theorem dX13_init_141 : decode cX13_init 141 = .ok (.iload_n 1, 1) := by decide +kernel
theorem dX13_init_142 : decode cX13_init 142 = .ok (.imul, 1) := by decide +kernel
theorem dX13_init_143 : decode cX13_init 143 = .ok (.iadd, 1) := by decide +kernel
theorem dX13_init_144 : decode cX13_init 144 = .ok (.iconst 1, 1) := by decide +kernel
theorem dX13_init_145 : decode cX13_init 145 = .ok (.iadd, 1) := by decide +kernel
theorem dX13_init_146 : decode cX13_init 146 = .ok (.bipush 15, 2) := by decide +kernel
theorem dX13_init_148 : decode cX13_init 148 = .ok (.iastore, 1) := by decide +kernel
theorem dX13_init_149 : decode cX13_init 149 = .ok (.aload_n 0, 1) := by decide +kernel
theorem dX13_init_150 : decode cX13_init 150 = .ok (.getfield 7, 3) := by decide +kernel
theorem dX13_init_153 : decode cX13_init 153 = .ok (.bipush 22, 2) := by decide +kernel
theorem dX13_init_155 : decode cX13_init 155 = .ok (.bipush 10, 2) := by decide +kernel
theorem dX13_init_157 : decode cX13_init 157 = .ok (.iload_n 1, 1) := by decide +kernel
theorem dX13_init_158 : decode cX13_init 158 = .ok (.imul, 1) := by decide +kernel
theorem dX13_init_159 : decode cX13_init 159 = .ok (.iadd, 1) := by decide +kernel
theorem dX13_init_160 : decode cX13_init 160 = .ok (.iconst 2, 1) := by decide +kernel
theorem dX13_init_161 : decode cX13_init 161 = .ok (.iadd, 1) := by decide +kernel
theorem dX13_init_162 : decode cX13_init 162 = .ok (.iconst 3, 1) := by decide +kernel
theorem dX13_init_163 : decode cX13_init 163 = .ok (.iastore, 1) := by decide +kernel
theorem dX13_init_164 : decode cX13_init 164 = .ok (.iinc 1 1, 3) := by decide +kernel
theorem dX13_init_167 : decode cX13_init 167 = .ok (.goto (-52), 3) := by decide +kernel
theorem dX13_init_170 : decode cX13_init 170 = .ok (.return_, 1) := by decide +kernel
theorem dX13_thrown_0 : decode cX13_thrown 0 = .ok (.aload_n 0, 1) := by decide +kernel
theorem dX13_thrown_1 : decode cX13_thrown 1 = .ok (.getfield 54, 3) := by decide +kernel
theorem dX13_thrown_4 : decode cX13_thrown 4 = .ok (.ireturn, 1) := by decide +kernel
theorem dX13_fails_0 : decode cX13_fails 0 = .ok (.aload_n 0, 1) := by decide +kernel
theorem dX13_fails_1 : decode cX13_fails 1 = .ok (.iload_n 1, 1) := by decide +kernel
theorem dX13_fails_2 : decode cX13_fails 2 = .ok (.putfield 54, 3) := by decide +kernel
theorem dX13_fails_5 : decode cX13_fails 5 = .ok (.iconst 0, 1) := by decide +kernel
theorem dX13_fails_6 : decode cX13_fails 6 = .ok (.ireturn, 1) := by decide +kernel
theorem dX13_in_0 : decode cX13_in 0 = .ok (.iload_n 0, 1) := by decide +kernel
theorem dX13_in_1 : decode cX13_in 1 = .ok (.iload_n 1, 1) := by decide +kernel
theorem dX13_in_2 : decode cX13_in 2 = .ok (.if_icmp .lt 12, 3) := by decide +kernel
theorem dX13_in_5 : decode cX13_in 5 = .ok (.iload_n 0, 1) := by decide +kernel
theorem dX13_in_6 : decode cX13_in 6 = .ok (.iload_n 2, 1) := by decide +kernel
theorem dX13_in_7 : decode cX13_in 7 = .ok (.if_icmp .gt 7, 3) := by decide +kernel
theorem dX13_in_10 : decode cX13_in 10 = .ok (.iconst 1, 1) := by decide +kernel
theorem dX13_in_11 : decode cX13_in 11 = .ok (.goto 4, 3) := by decide +kernel
theorem dX13_in_14 : decode cX13_in 14 = .ok (.iconst 0, 1) := by decide +kernel
theorem dX13_in_15 : decode cX13_in 15 = .ok (.ireturn, 1) := by decide +kernel
theorem dX13_copies_0 : decode cX13_copies 0 = .ok (.sipush 402, 3) := by decide +kernel
theorem dX13_copies_3 : decode cX13_copies 3 = .ok (.sipush 400, 3) := by decide +kernel
theorem dX13_copies_6 : decode cX13_copies 6 = .ok (.aload_n 0, 1) := by decide +kernel
theorem dX13_copies_7 : decode cX13_copies 7 = .ok (.iload_n 1, 1) := by decide +kernel
theorem dX13_copies_8 : decode cX13_copies 8 = .ok (.iaload, 1) := by decide +kernel
theorem dX13_copies_9 : decode cX13_copies 9 = .ok (.imul, 1) := by decide +kernel
theorem dX13_copies_10 : decode cX13_copies 10 = .ok (.iadd, 1) := by decide +kernel
theorem dX13_copies_11 : decode cX13_copies 11 = .ok (.istore 4, 2) := by decide +kernel
theorem dX13_copies_13 : decode cX13_copies 13 = .ok (.iconst 0, 1) := by decide +kernel
theorem dX13_copies_14 : decode cX13_copies 14 = .ok (.istore 5, 2) := by decide +kernel
theorem dX13_copies_16 : decode cX13_copies 16 = .ok (.iload 5, 2) := by decide +kernel
theorem dX13_copies_18 : decode cX13_copies 18 = .ok (.iload 4, 2) := by decide +kernel
theorem dX13_copies_20 : decode cX13_copies 20 = .ok (.if_icmp .ge 21, 3) := by decide +kernel
theorem dX13_copies_23 : decode cX13_copies 23 = .ok (.aload_n 2, 1) := by decide +kernel
theorem dX13_copies_24 : decode cX13_copies 24 = .ok (.iload_n 3, 1) := by decide +kernel
theorem dX13_copies_25 : decode cX13_copies 25 = .ok (.iload 5, 2) := by decide +kernel
theorem dX13_copies_27 : decode cX13_copies 27 = .ok (.iadd, 1) := by decide +kernel
theorem dX13_copies_28 : decode cX13_copies 28 = .ok (.aload_n 0, 1) := by decide +kernel
theorem dX13_copies_29 : decode cX13_copies 29 = .ok (.iload_n 1, 1) := by decide +kernel
theorem dX13_copies_30 : decode cX13_copies 30 = .ok (.iload 5, 2) := by decide +kernel
theorem dX13_copies_32 : decode cX13_copies 32 = .ok (.iadd, 1) := by decide +kernel
theorem dX13_copies_33 : decode cX13_copies 33 = .ok (.iaload, 1) := by decide +kernel
theorem dX13_copies_34 : decode cX13_copies 34 = .ok (.iastore, 1) := by decide +kernel
theorem dX13_copies_35 : decode cX13_copies 35 = .ok (.iinc 5 1, 3) := by decide +kernel
theorem dX13_copies_38 : decode cX13_copies 38 = .ok (.goto (-22), 3) := by decide +kernel
theorem dX13_copies_41 : decode cX13_copies 41 = .ok (.return_, 1) := by decide +kernel
theorem dX13_changes_0 : decode cX13_changes 0 = .ok (.aload_n 0, 1) := by decide +kernel
theorem dX13_changes_1 : decode cX13_changes 1 = .ok (.getfield 57, 3) := by decide +kernel
theorem dX13_changes_4 : decode cX13_changes 4 = .ok (.bipush 8, 2) := by decide +kernel
theorem dX13_changes_6 : decode cX13_changes 6 = .ok (.if_icmp .ne 50, 3) := by decide +kernel
theorem dX13_changes_9 : decode cX13_changes 9 = .ok (.iconst 1, 1) := by decide +kernel
theorem dX13_changes_10 : decode cX13_changes 10 = .ok (.istore_n 2, 1) := by decide +kernel
theorem dX13_changes_11 : decode cX13_changes 11 = .ok (.iload_n 2, 1) := by decide +kernel
theorem dX13_changes_12 : decode cX13_changes 12 = .ok (.bipush 8, 2) := by decide +kernel
theorem dX13_changes_14 : decode cX13_changes 14 = .ok (.if_icmp .ge 32, 3) := by decide +kernel
theorem dX13_changes_17 : decode cX13_changes 17 = .ok (.aload_n 0, 1) := by decide +kernel
theorem dX13_changes_18 : decode cX13_changes 18 = .ok (.getfield 20, 3) := by decide +kernel
theorem dX13_changes_21 : decode cX13_changes 21 = .ok (.sipush 10002, 3) := by decide +kernel
theorem dX13_changes_24 : decode cX13_changes 24 = .ok (.iload_n 2, 1) := by decide +kernel
theorem dX13_changes_25 : decode cX13_changes 25 = .ok (.imul, 1) := by decide +kernel
theorem dX13_changes_26 : decode cX13_changes 26 = .ok (.aload_n 0, 1) := by decide +kernel
theorem dX13_changes_27 : decode cX13_changes 27 = .ok (.getfield 20, 3) := by decide +kernel
theorem dX13_changes_30 : decode cX13_changes 30 = .ok (.sipush 10002, 3) := by decide +kernel
theorem dX13_changes_33 : decode cX13_changes 33 = .ok (.iload_n 2, 1) := by decide +kernel
theorem dX13_changes_34 : decode cX13_changes 34 = .ok (.iconst 1, 1) := by decide +kernel
theorem dX13_changes_35 : decode cX13_changes 35 = .ok (.isub, 1) := by decide +kernel
theorem dX13_changes_36 : decode cX13_changes 36 = .ok (.imul, 1) := by decide +kernel
theorem dX13_changes_37 : decode cX13_changes 37 = .ok (.invokestatic 60, 3) := by decide +kernel
theorem dX13_changes_40 : decode cX13_changes 40 = .ok (.iinc 2 1, 3) := by decide +kernel
theorem dX13_changes_43 : decode cX13_changes 43 = .ok (.goto (-32), 3) := by decide +kernel
theorem dX13_changes_46 : decode cX13_changes 46 = .ok (.aload_n 0, 1) := by decide +kernel
theorem dX13_changes_47 : decode cX13_changes 47 = .ok (.dup, 1) := by decide +kernel
theorem dX13_changes_48 : decode cX13_changes 48 = .ok (.getfield 57, 3) := by decide +kernel
theorem dX13_changes_51 : decode cX13_changes 51 = .ok (.iconst 1, 1) := by decide +kernel
theorem dX13_changes_52 : decode cX13_changes 52 = .ok (.isub, 1) := by decide +kernel
theorem dX13_changes_53 : decode cX13_changes 53 = .ok (.putfield 57, 3) := by decide +kernel
theorem dX13_changes_56 : decode cX13_changes 56 = .ok (.aload_n 1, 1) := by decide +kernel
theorem dX13_changes_57 : decode cX13_changes 57 = .ok (.iconst 0, 1) := by decide +kernel
theorem dX13_changes_58 : decode cX13_changes 58 = .ok (.aload_n 0, 1) := by decide +kernel
theorem dX13_changes_59 : decode cX13_changes 59 = .ok (.getfield 20, 3) := by decide +kernel
theorem dX13_changes_62 : decode cX13_changes 62 = .ok (.sipush 10002, 3) := by decide +kernel
theorem dX13_changes_65 : decode cX13_changes 65 = .ok (.aload_n 0, 1) := by decide +kernel
theorem dX13_changes_66 : decode cX13_changes 66 = .ok (.getfield 57, 3) := by decide +kernel
theorem dX13_changes_69 : decode cX13_changes 69 = .ok (.imul, 1) := by decide +kernel
theorem dX13_changes_70 : decode cX13_changes 70 = .ok (.invokestatic 60, 3) := by decide +kernel
theorem dX13_changes_73 : decode cX13_changes 73 = .ok (.aload_n 0, 1) := by decide +kernel
theorem dX13_changes_74 : decode cX13_changes 74 = .ok (.dup, 1) := by decide +kernel
theorem dX13_changes_75 : decode cX13_changes 75 = .ok (.getfield 57, 3) := by decide +kernel
theorem dX13_changes_78 : decode cX13_changes 78 = .ok (.iconst 1, 1) := by decide +kernel
theorem dX13_changes_79 : decode cX13_changes 79 = .ok (.iadd, 1) := by decide +kernel
theorem dX13_changes_80 : decode cX13_changes 80 = .ok (.putfield 57, 3) := by decide +kernel
theorem dX13_changes_83 : decode cX13_changes 83 = .ok (.return_, 1) := by decide +kernel
theorem dX13_undo_0 : decode cX13_undo 0 = .ok (.aload_n 0, 1) := by decide +kernel
theorem dX13_undo_1 : decode cX13_undo 1 = .ok (.aload_n 0, 1) := by decide +kernel
theorem dX13_undo_2 : decode cX13_undo 2 = .ok (.getfield 57, 3) := by decide +kernel
theorem dX13_undo_5 : decode cX13_undo 5 = .ok (.ifCond .ne 7, 3) := by decide +kernel
theorem dX13_undo_8 : decode cX13_undo 8 = .ok (.iconst 1, 1) := by decide +kernel
theorem dX13_undo_9 : decode cX13_undo 9 = .ok (.goto 4, 3) := by decide +kernel
theorem dX13_undo_12 : decode cX13_undo 12 = .ok (.iconst 0, 1) := by decide +kernel
theorem dX13_undo_13 : decode cX13_undo 13 = .ok (.putfield 54, 3) := by decide +kernel
theorem dX13_undo_16 : decode cX13_undo 16 = .ok (.aload_n 0, 1) := by decide +kernel
theorem dX13_undo_17 : decode cX13_undo 17 = .ok (.getfield 54, 3) := by decide +kernel
theorem dX13_undo_20 : decode cX13_undo 20 = .ok (.ifCond .le 5, 3) := by decide +kernel
theorem dX13_undo_23 : decode cX13_undo 23 = .ok (.iconst 0, 1) := by decide +kernel
theorem dX13_undo_24 : decode cX13_undo 24 = .ok (.ireturn, 1) := by decide +kernel
theorem dX13_undo_25 : decode cX13_undo 25 = .ok (.aload_n 0, 1) := by decide +kernel
theorem dX13_undo_26 : decode cX13_undo 26 = .ok (.dup, 1) := by decide +kernel
theorem dX13_undo_27 : decode cX13_undo 27 = .ok (.getfield 57, 3) := by decide +kernel
theorem dX13_undo_30 : decode cX13_undo 30 = .ok (.iconst 1, 1) := by decide +kernel
theorem dX13_undo_31 : decode cX13_undo 31 = .ok (.isub, 1) := by decide +kernel
theorem dX13_undo_32 : decode cX13_undo 32 = .ok (.putfield 57, 3) := by decide +kernel
theorem dX13_undo_35 : decode cX13_undo 35 = .ok (.aload_n 0, 1) := by decide +kernel
theorem dX13_undo_36 : decode cX13_undo 36 = .ok (.getfield 20, 3) := by decide +kernel
theorem dX13_undo_39 : decode cX13_undo 39 = .ok (.sipush 10002, 3) := by decide +kernel
theorem dX13_undo_42 : decode cX13_undo 42 = .ok (.aload_n 0, 1) := by decide +kernel
theorem dX13_undo_43 : decode cX13_undo 43 = .ok (.getfield 57, 3) := by decide +kernel
theorem dX13_undo_46 : decode cX13_undo 46 = .ok (.imul, 1) := by decide +kernel
theorem dX13_undo_47 : decode cX13_undo 47 = .ok (.aload_n 0, 1) := by decide +kernel
theorem dX13_undo_48 : decode cX13_undo 48 = .ok (.getfield 7, 3) := by decide +kernel
theorem dX13_undo_51 : decode cX13_undo 51 = .ok (.iconst 0, 1) := by decide +kernel
theorem dX13_undo_52 : decode cX13_undo 52 = .ok (.invokestatic 60, 3) := by decide +kernel
theorem dX13_undo_55 : decode cX13_undo 55 = .ok (.aload_n 0, 1) := by decide +kernel
theorem dX13_undo_56 : decode cX13_undo 56 = .ok (.getfield 57, 3) := by decide +kernel
theorem dX13_undo_59 : decode cX13_undo 59 = .ok (.ireturn, 1) := by decide +kernel
theorem dX13_save_0 : decode cX13_save 0 = .ok (.aload_n 0, 1) := by decide +kernel
theorem dX13_save_1 : decode cX13_save 1 = .ok (.iconst 0, 1) := by decide +kernel
theorem dX13_save_2 : decode cX13_save 2 = .ok (.putfield 54, 3) := by decide +kernel
theorem dX13_save_5 : decode cX13_save 5 = .ok (.aload_n 0, 1) := by decide +kernel
theorem dX13_save_6 : decode cX13_save 6 = .ok (.iconst 1, 1) := by decide +kernel
theorem dX13_save_7 : decode cX13_save 7 = .ok (.putfield 64, 3) := by decide +kernel
theorem dX13_save_10 : decode cX13_save 10 = .ok (.aload_n 0, 1) := by decide +kernel
theorem dX13_save_11 : decode cX13_save 11 = .ok (.getfield 7, 3) := by decide +kernel
theorem dX13_save_14 : decode cX13_save 14 = .ok (.iconst 0, 1) := by decide +kernel
theorem dX13_save_15 : decode cX13_save 15 = .ok (.aload_n 0, 1) := by decide +kernel
theorem dX13_save_16 : decode cX13_save 16 = .ok (.getfield 13, 3) := by decide +kernel
theorem dX13_save_19 : decode cX13_save 19 = .ok (.iconst 0, 1) := by decide +kernel
theorem dX13_save_20 : decode cX13_save 20 = .ok (.invokestatic 60, 3) := by decide +kernel
theorem dX13_save_23 : decode cX13_save 23 = .ok (.aload_n 0, 1) := by decide +kernel
theorem dX13_save_24 : decode cX13_save 24 = .ok (.getfield 7, 3) := by decide +kernel
theorem dX13_save_27 : decode cX13_save 27 = .ok (.iconst 0, 1) := by decide +kernel
theorem dX13_save_28 : decode cX13_save 28 = .ok (.iaload, 1) := by decide +kernel
theorem dX13_save_29 : decode cX13_save 29 = .ok (.ireturn, 1) := by decide +kernel
theorem dX13_restore_0 : decode cX13_restore 0 = .ok (.aload_n 0, 1) := by decide +kernel
theorem dX13_restore_1 : decode cX13_restore 1 = .ok (.aload_n 0, 1) := by decide +kernel
theorem dX13_restore_2 : decode cX13_restore 2 = .ok (.getfield 64, 3) := by decide +kernel
theorem dX13_restore_5 : decode cX13_restore 5 = .ok (.ifCond .eq 7, 3) := by decide +kernel
theorem dX13_restore_8 : decode cX13_restore 8 = .ok (.iconst 0, 1) := by decide +kernel
theorem dX13_restore_9 : decode cX13_restore 9 = .ok (.goto 4, 3) := by decide +kernel
theorem dX13_restore_12 : decode cX13_restore 12 = .ok (.iconst 1, 1) := by decide +kernel
theorem dX13_restore_13 : decode cX13_restore 13 = .ok (.putfield 54, 3) := by decide +kernel
theorem dX13_restore_16 : decode cX13_restore 16 = .ok (.aload_n 0, 1) := by decide +kernel
theorem dX13_restore_17 : decode cX13_restore 17 = .ok (.getfield 64, 3) := by decide +kernel
theorem dX13_restore_20 : decode cX13_restore 20 = .ok (.ifCond .ne 5, 3) := by decide +kernel
theorem dX13_restore_23 : decode cX13_restore 23 = .ok (.iconst 0, 1) := by decide +kernel
theorem dX13_restore_24 : decode cX13_restore 24 = .ok (.ireturn, 1) := by decide +kernel
theorem dX13_restore_25 : decode cX13_restore 25 = .ok (.aload_n 0, 1) := by decide +kernel
theorem dX13_restore_26 : decode cX13_restore 26 = .ok (.getfield 13, 3) := by decide +kernel
theorem dX13_restore_29 : decode cX13_restore 29 = .ok (.iconst 0, 1) := by decide +kernel
theorem dX13_restore_30 : decode cX13_restore 30 = .ok (.aload_n 0, 1) := by decide +kernel
theorem dX13_restore_31 : decode cX13_restore 31 = .ok (.getfield 7, 3) := by decide +kernel
theorem dX13_restore_34 : decode cX13_restore 34 = .ok (.iconst 0, 1) := by decide +kernel
theorem dX13_restore_35 : decode cX13_restore 35 = .ok (.invokestatic 60, 3) := by decide +kernel
theorem dX13_restore_38 : decode cX13_restore 38 = .ok (.aload_n 0, 1) := by decide +kernel
theorem dX13_restore_39 : decode cX13_restore 39 = .ok (.iconst 0, 1) := by decide +kernel
theorem dX13_restore_40 : decode cX13_restore 40 = .ok (.putfield 57, 3) := by decide +kernel
theorem dX13_restore_43 : decode cX13_restore 43 = .ok (.aload_n 0, 1) := by decide +kernel
theorem dX13_restore_44 : decode cX13_restore 44 = .ok (.getfield 7, 3) := by decide +kernel
theorem dX13_restore_47 : decode cX13_restore 47 = .ok (.iconst 0, 1) := by decide +kernel
theorem dX13_restore_48 : decode cX13_restore 48 = .ok (.iaload, 1) := by decide +kernel
theorem dX13_restore_49 : decode cX13_restore 49 = .ok (.ireturn, 1) := by decide +kernel
theorem dX13_isMachine_0 : decode cX13_isMachine 0 = .ok (.iload_n 0, 1) := by decide +kernel
theorem dX13_isMachine_1 : decode cX13_isMachine 1 = .ok (.iconst 0, 1) := by decide +kernel
theorem dX13_isMachine_2 : decode cX13_isMachine 2 = .ok (.iconst 5, 1) := by decide +kernel
theorem dX13_isMachine_3 : decode cX13_isMachine 3 = .ok (.invokestatic 68, 3) := by decide +kernel
theorem dX13_isMachine_6 : decode cX13_isMachine 6 = .ok (.ireturn, 1) := by decide +kernel
theorem dX13_isProduct_0 : decode cX13_isProduct 0 = .ok (.iload_n 0, 1) := by decide +kernel
theorem dX13_isProduct_1 : decode cX13_isProduct 1 = .ok (.iconst 0, 1) := by decide +kernel
theorem dX13_isProduct_2 : decode cX13_isProduct 2 = .ok (.iconst 3, 1) := by decide +kernel
theorem dX13_isProduct_3 : decode cX13_isProduct 3 = .ok (.invokestatic 68, 3) := by decide +kernel
theorem dX13_isProduct_6 : decode cX13_isProduct 6 = .ok (.ireturn, 1) := by decide +kernel
theorem dX13_isLot_0 : decode cX13_isLot 0 = .ok (.iload_n 1, 1) := by decide +kernel
theorem dX13_isLot_1 : decode cX13_isLot 1 = .ok (.iconst 0, 1) := by decide +kernel
theorem dX13_isLot_2 : decode cX13_isLot 2 = .ok (.aload_n 0, 1) := by decide +kernel
theorem dX13_isLot_3 : decode cX13_isLot 3 = .ok (.getfield 7, 3) := by decide +kernel
theorem dX13_isLot_6 : decode cX13_isLot 6 = .ok (.iconst 0, 1) := by decide +kernel
theorem dX13_isLot_7 : decode cX13_isLot 7 = .ok (.iaload, 1) := by decide +kernel
theorem dX13_isLot_8 : decode cX13_isLot 8 = .ok (.iconst 1, 1) := by decide +kernel
theorem dX13_isLot_9 : decode cX13_isLot 9 = .ok (.isub, 1) := by decide +kernel
theorem dX13_isLot_10 : decode cX13_isLot 10 = .ok (.invokestatic 68, 3) := by decide +kernel
theorem dX13_isLot_13 : decode cX13_isLot 13 = .ok (.ireturn, 1) := by decide +kernel
theorem dX13_at_0 : decode cX13_at 0 = .ok (.bipush 90, 2) := by decide +kernel
theorem dX13_at_2 : decode cX13_at 2 = .ok (.bipush 13, 2) := by decide +kernel
theorem dX13_at_4 : decode cX13_at 4 = .ok (.iload_n 0, 1) := by decide +kernel
theorem dX13_at_5 : decode cX13_at 5 = .ok (.imul, 1) := by decide +kernel
theorem dX13_at_6 : decode cX13_at 6 = .ok (.iadd, 1) := by decide +kernel
theorem dX13_at_7 : decode cX13_at 7 = .ok (.iload_n 1, 1) := by decide +kernel
theorem dX13_at_8 : decode cX13_at 8 = .ok (.iadd, 1) := by decide +kernel
theorem dX13_at_9 : decode cX13_at 9 = .ok (.ireturn, 1) := by decide +kernel
theorem dX13_size_0 : decode cX13_size 0 = .ok (.aload_n 0, 1) := by decide +kernel
theorem dX13_size_1 : decode cX13_size 1 = .ok (.getfield 7, 3) := by decide +kernel
theorem dX13_size_4 : decode cX13_size 4 = .ok (.iload_n 1, 1) := by decide +kernel
theorem dX13_size_5 : decode cX13_size 5 = .ok (.iconst 1, 1) := by decide +kernel
theorem dX13_size_6 : decode cX13_size 6 = .ok (.invokestatic 72, 3) := by decide +kernel
theorem dX13_size_9 : decode cX13_size 9 = .ok (.iaload, 1) := by decide +kernel
theorem dX13_size_10 : decode cX13_size 10 = .ok (.ireturn, 1) := by decide +kernel
theorem dX13_productOf_0 : decode cX13_productOf 0 = .ok (.bipush 22, 2) := by decide +kernel
theorem dX13_productOf_2 : decode cX13_productOf 2 = .ok (.bipush 10, 2) := by decide +kernel
theorem dX13_productOf_4 : decode cX13_productOf 4 = .ok (.aload_n 0, 1) := by decide +kernel
theorem dX13_productOf_5 : decode cX13_productOf 5 = .ok (.getfield 7, 3) := by decide +kernel
theorem dX13_productOf_8 : decode cX13_productOf 8 = .ok (.iload_n 1, 1) := by decide +kernel
theorem dX13_productOf_9 : decode cX13_productOf 9 = .ok (.iconst 0, 1) := by decide +kernel
theorem dX13_productOf_10 : decode cX13_productOf 10 = .ok (.invokestatic 72, 3) := by decide +kernel
theorem dX13_productOf_13 : decode cX13_productOf 13 = .ok (.iaload, 1) := by decide +kernel
theorem dX13_productOf_14 : decode cX13_productOf 14 = .ok (.imul, 1) := by decide +kernel
theorem dX13_productOf_15 : decode cX13_productOf 15 = .ok (.iadd, 1) := by decide +kernel
theorem dX13_productOf_16 : decode cX13_productOf 16 = .ok (.ireturn, 1) := by decide +kernel
theorem dX13_isUnit_0 : decode cX13_isUnit 0 = .ok (.aload_n 0, 1) := by decide +kernel
theorem dX13_isUnit_1 : decode cX13_isUnit 1 = .ok (.iload_n 1, 1) := by decide +kernel
theorem dX13_isUnit_2 : decode cX13_isUnit 2 = .ok (.invokevirtual 76, 3) := by decide +kernel
theorem dX13_isUnit_5 : decode cX13_isUnit 5 = .ok (.ifCond .eq 22, 3) := by decide +kernel
theorem dX13_isUnit_8 : decode cX13_isUnit 8 = .ok (.iload_n 2, 1) := by decide +kernel
theorem dX13_isUnit_9 : decode cX13_isUnit 9 = .ok (.iconst 0, 1) := by decide +kernel
theorem dX13_isUnit_10 : decode cX13_isUnit 10 = .ok (.aload_n 0, 1) := by decide +kernel
theorem dX13_isUnit_11 : decode cX13_isUnit 11 = .ok (.iload_n 1, 1) := by decide +kernel
theorem dX13_isUnit_12 : decode cX13_isUnit 12 = .ok (.invokevirtual 80, 3) := by decide +kernel
theorem dX13_isUnit_15 : decode cX13_isUnit 15 = .ok (.iconst 1, 1) := by decide +kernel
theorem dX13_isUnit_16 : decode cX13_isUnit 16 = .ok (.isub, 1) := by decide +kernel
theorem dX13_isUnit_17 : decode cX13_isUnit 17 = .ok (.invokestatic 68, 3) := by decide +kernel
theorem dX13_isUnit_20 : decode cX13_isUnit 20 = .ok (.ifCond .eq 7, 3) := by decide +kernel
theorem dX13_isUnit_23 : decode cX13_isUnit 23 = .ok (.iconst 1, 1) := by decide +kernel
theorem dX13_isUnit_24 : decode cX13_isUnit 24 = .ok (.goto 4, 3) := by decide +kernel
theorem dX13_isUnit_27 : decode cX13_isUnit 27 = .ok (.iconst 0, 1) := by decide +kernel
theorem dX13_isUnit_28 : decode cX13_isUnit 28 = .ok (.ireturn, 1) := by decide +kernel
theorem dX13_spot_0 : decode cX13_spot 0 = .ok (.sipush 402, 3) := by decide +kernel
theorem dX13_spot_3 : decode cX13_spot 3 = .ok (.iconst 2, 1) := by decide +kernel
theorem dX13_spot_4 : decode cX13_spot 4 = .ok (.sipush 200, 3) := by decide +kernel
theorem dX13_spot_7 : decode cX13_spot 7 = .ok (.iload_n 0, 1) := by decide +kernel
theorem dX13_spot_8 : decode cX13_spot 8 = .ok (.imul, 1) := by decide +kernel
theorem dX13_spot_9 : decode cX13_spot 9 = .ok (.iload_n 1, 1) := by decide +kernel
theorem dX13_spot_10 : decode cX13_spot 10 = .ok (.iadd, 1) := by decide +kernel
theorem dX13_spot_11 : decode cX13_spot 11 = .ok (.imul, 1) := by decide +kernel
theorem dX13_spot_12 : decode cX13_spot 12 = .ok (.iadd, 1) := by decide +kernel
theorem dX13_spot_13 : decode cX13_spot 13 = .ok (.ireturn, 1) := by decide +kernel
theorem dX13_defects_0 : decode cX13_defects 0 = .ok (.aload_n 0, 1) := by decide +kernel
theorem dX13_defects_1 : decode cX13_defects 1 = .ok (.getfield 7, 3) := by decide +kernel
theorem dX13_defects_4 : decode cX13_defects 4 = .ok (.iload_n 1, 1) := by decide +kernel
theorem dX13_defects_5 : decode cX13_defects 5 = .ok (.iload_n 2, 1) := by decide +kernel
theorem dX13_defects_6 : decode cX13_defects 6 = .ok (.invokestatic 84, 3) := by decide +kernel
theorem dX13_defects_9 : decode cX13_defects 9 = .ok (.iaload, 1) := by decide +kernel
theorem dX13_defects_10 : decode cX13_defects 10 = .ok (.bipush 15, 2) := by decide +kernel
theorem dX13_defects_12 : decode cX13_defects 12 = .ok (.iand, 1) := by decide +kernel
theorem dX13_defects_13 : decode cX13_defects 13 = .ok (.ireturn, 1) := by decide +kernel
theorem dX13_repairs_0 : decode cX13_repairs 0 = .ok (.aload_n 0, 1) := by decide +kernel
theorem dX13_repairs_1 : decode cX13_repairs 1 = .ok (.getfield 7, 3) := by decide +kernel
theorem dX13_repairs_4 : decode cX13_repairs 4 = .ok (.iload_n 1, 1) := by decide +kernel
theorem dX13_repairs_5 : decode cX13_repairs 5 = .ok (.iload_n 2, 1) := by decide +kernel
theorem dX13_repairs_6 : decode cX13_repairs 6 = .ok (.invokestatic 84, 3) := by decide +kernel
theorem dX13_repairs_9 : decode cX13_repairs 9 = .ok (.iaload, 1) := by decide +kernel
theorem dX13_repairs_10 : decode cX13_repairs 10 = .ok (.iconst 4, 1) := by decide +kernel
theorem dX13_repairs_11 : decode cX13_repairs 11 = .ok (.ishr, 1) := by decide +kernel
theorem dX13_repairs_12 : decode cX13_repairs 12 = .ok (.iconst 3, 1) := by decide +kernel
theorem dX13_repairs_13 : decode cX13_repairs 13 = .ok (.iand, 1) := by decide +kernel
theorem dX13_repairs_14 : decode cX13_repairs 14 = .ok (.ireturn, 1) := by decide +kernel
theorem dX13_state_0 : decode cX13_state 0 = .ok (.aload_n 0, 1) := by decide +kernel
theorem dX13_state_1 : decode cX13_state 1 = .ok (.getfield 7, 3) := by decide +kernel
theorem dX13_state_4 : decode cX13_state 4 = .ok (.iload_n 1, 1) := by decide +kernel
theorem dX13_state_5 : decode cX13_state 5 = .ok (.iload_n 2, 1) := by decide +kernel
theorem dX13_state_6 : decode cX13_state 6 = .ok (.invokestatic 84, 3) := by decide +kernel
theorem dX13_state_9 : decode cX13_state 9 = .ok (.iaload, 1) := by decide +kernel
theorem dX13_state_10 : decode cX13_state 10 = .ok (.bipush 6, 2) := by decide +kernel
theorem dX13_state_12 : decode cX13_state 12 = .ok (.ishr, 1) := by decide +kernel
theorem dX13_state_13 : decode cX13_state 13 = .ok (.bipush 7, 2) := by decide +kernel
theorem dX13_state_15 : decode cX13_state 15 = .ok (.iand, 1) := by decide +kernel
theorem dX13_state_16 : decode cX13_state 16 = .ok (.ireturn, 1) := by decide +kernel
theorem dX13_becomes_0 : decode cX13_becomes 0 = .ok (.aload_n 0, 1) := by decide +kernel
theorem dX13_becomes_1 : decode cX13_becomes 1 = .ok (.getfield 7, 3) := by decide +kernel
theorem dX13_becomes_4 : decode cX13_becomes 4 = .ok (.iload_n 1, 1) := by decide +kernel
theorem dX13_becomes_5 : decode cX13_becomes 5 = .ok (.iload_n 2, 1) := by decide +kernel
theorem dX13_becomes_6 : decode cX13_becomes 6 = .ok (.invokestatic 84, 3) := by decide +kernel
theorem dX13_becomes_9 : decode cX13_becomes 9 = .ok (.aload_n 0, 1) := by decide +kernel
theorem dX13_becomes_10 : decode cX13_becomes 10 = .ok (.getfield 7, 3) := by decide +kernel
theorem dX13_becomes_13 : decode cX13_becomes 13 = .ok (.iload_n 1, 1) := by decide +kernel
theorem dX13_becomes_14 : decode cX13_becomes 14 = .ok (.iload_n 2, 1) := by decide +kernel
theorem dX13_becomes_15 : decode cX13_becomes 15 = .ok (.invokestatic 84, 3) := by decide +kernel
theorem dX13_becomes_18 : decode cX13_becomes 18 = .ok (.iaload, 1) := by decide +kernel
theorem dX13_becomes_19 : decode cX13_becomes 19 = .ok (.sipush (-449), 3) := by decide +kernel
theorem dX13_becomes_22 : decode cX13_becomes 22 = .ok (.iand, 1) := by decide +kernel
theorem dX13_becomes_23 : decode cX13_becomes 23 = .ok (.iload_n 3, 1) := by decide +kernel
theorem dX13_becomes_24 : decode cX13_becomes 24 = .ok (.bipush 6, 2) := by decide +kernel
theorem dX13_becomes_26 : decode cX13_becomes 26 = .ok (.ishl, 1) := by decide +kernel
theorem dX13_becomes_27 : decode cX13_becomes 27 = .ok (.ior, 1) := by decide +kernel
theorem dX13_becomes_28 : decode cX13_becomes 28 = .ok (.iastore, 1) := by decide +kernel
theorem dX13_becomes_29 : decode cX13_becomes 29 = .ok (.return_, 1) := by decide +kernel
theorem dX13_way_0 : decode cX13_way 0 = .ok (.aload_n 0, 1) := by decide +kernel
theorem dX13_way_1 : decode cX13_way 1 = .ok (.getfield 7, 3) := by decide +kernel
theorem dX13_way_4 : decode cX13_way 4 = .ok (.iload_n 1, 1) := by decide +kernel
theorem dX13_way_5 : decode cX13_way 5 = .ok (.iload_n 2, 1) := by decide +kernel
theorem dX13_way_6 : decode cX13_way 6 = .ok (.invokestatic 84, 3) := by decide +kernel
theorem dX13_way_9 : decode cX13_way 9 = .ok (.iaload, 1) := by decide +kernel
theorem dX13_way_10 : decode cX13_way 10 = .ok (.bipush 10, 2) := by decide +kernel
theorem dX13_way_12 : decode cX13_way 12 = .ok (.iconst 2, 1) := by decide +kernel
theorem dX13_way_13 : decode cX13_way 13 = .ok (.iload_n 3, 1) := by decide +kernel
theorem dX13_way_14 : decode cX13_way 14 = .ok (.imul, 1) := by decide +kernel
theorem dX13_way_15 : decode cX13_way 15 = .ok (.iadd, 1) := by decide +kernel
theorem dX13_way_16 : decode cX13_way 16 = .ok (.ishr, 1) := by decide +kernel
theorem dX13_way_17 : decode cX13_way 17 = .ok (.iconst 3, 1) := by decide +kernel
theorem dX13_way_18 : decode cX13_way 18 = .ok (.iand, 1) := by decide +kernel
theorem dX13_way_19 : decode cX13_way 19 = .ok (.ireturn, 1) := by decide +kernel
theorem dX13_isBad_0 : decode cX13_isBad 0 = .ok (.aload_n 0, 1) := by decide +kernel
theorem dX13_isBad_1 : decode cX13_isBad 1 = .ok (.iload_n 1, 1) := by decide +kernel
theorem dX13_isBad_2 : decode cX13_isBad 2 = .ok (.iload_n 2, 1) := by decide +kernel
theorem dX13_isBad_3 : decode cX13_isBad 3 = .ok (.invokevirtual 87, 3) := by decide +kernel
theorem dX13_isBad_6 : decode cX13_isBad 6 = .ok (.aload_n 0, 1) := by decide +kernel
theorem dX13_isBad_7 : decode cX13_isBad 7 = .ok (.getfield 7, 3) := by decide +kernel
theorem dX13_isBad_10 : decode cX13_isBad 10 = .ok (.aload_n 0, 1) := by decide +kernel
theorem dX13_isBad_11 : decode cX13_isBad 11 = .ok (.iload_n 1, 1) := by decide +kernel
theorem dX13_isBad_12 : decode cX13_isBad 12 = .ok (.invokevirtual 90, 3) := by decide +kernel
theorem dX13_isBad_15 : decode cX13_isBad 15 = .ok (.iconst 1, 1) := by decide +kernel
theorem dX13_isBad_16 : decode cX13_isBad 16 = .ok (.iadd, 1) := by decide +kernel
theorem dX13_isBad_17 : decode cX13_isBad 17 = .ok (.iaload, 1) := by decide +kernel
theorem dX13_isBad_18 : decode cX13_isBad 18 = .ok (.iand, 1) := by decide +kernel
theorem dX13_isBad_19 : decode cX13_isBad 19 = .ok (.ifCond .eq 7, 3) := by decide +kernel
theorem dX13_isBad_22 : decode cX13_isBad 22 = .ok (.iconst 1, 1) := by decide +kernel
theorem dX13_isBad_23 : decode cX13_isBad 23 = .ok (.goto 4, 3) := by decide +kernel
theorem dX13_isBad_26 : decode cX13_isBad 26 = .ok (.iconst 0, 1) := by decide +kernel
theorem dX13_isBad_27 : decode cX13_isBad 27 = .ok (.ireturn, 1) := by decide +kernel
theorem dX13_causes_0 : decode cX13_causes 0 = .ok (.aload_n 0, 1) := by decide +kernel
theorem dX13_causes_1 : decode cX13_causes 1 = .ok (.iload_n 1, 1) := by decide +kernel
theorem dX13_causes_2 : decode cX13_causes 2 = .ok (.iload_n 2, 1) := by decide +kernel
theorem dX13_causes_3 : decode cX13_causes 3 = .ok (.invokevirtual 87, 3) := by decide +kernel
theorem dX13_causes_6 : decode cX13_causes 6 = .ok (.iload_n 3, 1) := by decide +kernel
theorem dX13_causes_7 : decode cX13_causes 7 = .ok (.ishr, 1) := by decide +kernel
theorem dX13_causes_8 : decode cX13_causes 8 = .ok (.iconst 1, 1) := by decide +kernel
theorem dX13_causes_9 : decode cX13_causes 9 = .ok (.iand, 1) := by decide +kernel
theorem dX13_causes_10 : decode cX13_causes 10 = .ok (.ifCond .ne 29, 3) := by decide +kernel
theorem dX13_causes_13 : decode cX13_causes 13 = .ok (.aload_n 0, 1) := by decide +kernel
theorem dX13_causes_14 : decode cX13_causes 14 = .ok (.getfield 7, 3) := by decide +kernel
theorem dX13_causes_17 : decode cX13_causes 17 = .ok (.iload_n 1, 1) := by decide +kernel
theorem dX13_causes_18 : decode cX13_causes 18 = .ok (.iload_n 2, 1) := by decide +kernel
theorem dX13_causes_19 : decode cX13_causes 19 = .ok (.invokestatic 84, 3) := by decide +kernel
theorem dX13_causes_22 : decode cX13_causes 22 = .ok (.dup2, 1) := by decide +kernel
theorem dX13_causes_23 : decode cX13_causes 23 = .ok (.iaload, 1) := by decide +kernel
theorem dX13_causes_24 : decode cX13_causes 24 = .ok (.iconst 1, 1) := by decide +kernel
theorem dX13_causes_25 : decode cX13_causes 25 = .ok (.iload_n 3, 1) := by decide +kernel
theorem dX13_causes_26 : decode cX13_causes 26 = .ok (.ishl, 1) := by decide +kernel
theorem dX13_causes_27 : decode cX13_causes 27 = .ok (.iload 4, 2) := by decide +kernel
theorem dX13_causes_29 : decode cX13_causes 29 = .ok (.bipush 10, 2) := by decide +kernel
theorem dX13_causes_31 : decode cX13_causes 31 = .ok (.iconst 2, 1) := by decide +kernel
theorem dX13_causes_32 : decode cX13_causes 32 = .ok (.iload_n 3, 1) := by decide +kernel
theorem dX13_causes_33 : decode cX13_causes 33 = .ok (.imul, 1) := by decide +kernel
theorem dX13_causes_34 : decode cX13_causes 34 = .ok (.iadd, 1) := by decide +kernel
theorem dX13_causes_35 : decode cX13_causes 35 = .ok (.ishl, 1) := by decide +kernel
theorem dX13_causes_36 : decode cX13_causes 36 = .ok (.ior, 1) := by decide +kernel
theorem dX13_causes_37 : decode cX13_causes 37 = .ok (.ior, 1) := by decide +kernel
theorem dX13_causes_38 : decode cX13_causes 38 = .ok (.iastore, 1) := by decide +kernel
theorem dX13_causes_39 : decode cX13_causes 39 = .ok (.return_, 1) := by decide +kernel
theorem dX13_loses_0 : decode cX13_loses 0 = .ok (.iconst 0, 1) := by decide +kernel
theorem dX13_loses_1 : decode cX13_loses 1 = .ok (.istore 4, 2) := by decide +kernel
theorem dX13_loses_3 : decode cX13_loses 3 = .ok (.iload 4, 2) := by decide +kernel
theorem dX13_loses_5 : decode cX13_loses 5 = .ok (.iconst 4, 1) := by decide +kernel
theorem dX13_loses_6 : decode cX13_loses 6 = .ok (.if_icmp .ge 48, 3) := by decide +kernel
theorem dX13_loses_9 : decode cX13_loses 9 = .ok (.iload_n 3, 1) := by decide +kernel
theorem dX13_loses_10 : decode cX13_loses 10 = .ok (.iload 4, 2) := by decide +kernel
theorem dX13_loses_12 : decode cX13_loses 12 = .ok (.ishr, 1) := by decide +kernel
theorem dX13_loses_13 : decode cX13_loses 13 = .ok (.iconst 1, 1) := by decide +kernel
theorem dX13_loses_14 : decode cX13_loses 14 = .ok (.iand, 1) := by decide +kernel
theorem dX13_loses_15 : decode cX13_loses 15 = .ok (.iconst 1, 1) := by decide +kernel
theorem dX13_loses_16 : decode cX13_loses 16 = .ok (.if_icmp .ne 32, 3) := by decide +kernel
theorem dX13_loses_19 : decode cX13_loses 19 = .ok (.aload_n 0, 1) := by decide +kernel
theorem dX13_loses_20 : decode cX13_loses 20 = .ok (.getfield 7, 3) := by decide +kernel
theorem dX13_loses_23 : decode cX13_loses 23 = .ok (.iload_n 1, 1) := by decide +kernel
theorem dX13_loses_24 : decode cX13_loses 24 = .ok (.iload_n 2, 1) := by decide +kernel
theorem dX13_loses_25 : decode cX13_loses 25 = .ok (.invokestatic 84, 3) := by decide +kernel
theorem dX13_loses_28 : decode cX13_loses 28 = .ok (.dup2, 1) := by decide +kernel
theorem dX13_loses_29 : decode cX13_loses 29 = .ok (.iaload, 1) := by decide +kernel
theorem dX13_loses_30 : decode cX13_loses 30 = .ok (.iconst 1, 1) := by decide +kernel
theorem dX13_loses_31 : decode cX13_loses 31 = .ok (.iload 4, 2) := by decide +kernel
theorem dX13_loses_33 : decode cX13_loses 33 = .ok (.ishl, 1) := by decide +kernel
theorem dX13_loses_34 : decode cX13_loses 34 = .ok (.iconst 3, 1) := by decide +kernel
theorem dX13_loses_35 : decode cX13_loses 35 = .ok (.bipush 10, 2) := by decide +kernel
theorem dX13_loses_37 : decode cX13_loses 37 = .ok (.iconst 2, 1) := by decide +kernel
theorem dX13_loses_38 : decode cX13_loses 38 = .ok (.iload 4, 2) := by decide +kernel
theorem dX13_loses_40 : decode cX13_loses 40 = .ok (.imul, 1) := by decide +kernel
theorem dX13_loses_41 : decode cX13_loses 41 = .ok (.iadd, 1) := by decide +kernel
theorem dX13_loses_42 : decode cX13_loses 42 = .ok (.ishl, 1) := by decide +kernel
theorem dX13_loses_43 : decode cX13_loses 43 = .ok (.ior, 1) := by decide +kernel
theorem dX13_loses_44 : decode cX13_loses 44 = .ok (.iconst (-1), 1) := by decide +kernel
theorem dX13_loses_45 : decode cX13_loses 45 = .ok (.ixor, 1) := by decide +kernel
theorem dX13_loses_46 : decode cX13_loses 46 = .ok (.iand, 1) := by decide +kernel
theorem dX13_loses_47 : decode cX13_loses 47 = .ok (.iastore, 1) := by decide +kernel
theorem dX13_loses_48 : decode cX13_loses 48 = .ok (.iinc 4 1, 3) := by decide +kernel
theorem dX13_loses_51 : decode cX13_loses 51 = .ok (.goto (-48), 3) := by decide +kernel
theorem dX13_loses_54 : decode cX13_loses 54 = .ok (.return_, 1) := by decide +kernel
theorem dX13_partUnit_0 : decode cX13_partUnit 0 = .ok (.aload_n 0, 1) := by decide +kernel
theorem dX13_partUnit_1 : decode cX13_partUnit 1 = .ok (.getfield 7, 3) := by decide +kernel
theorem dX13_partUnit_4 : decode cX13_partUnit 4 = .ok (.iload_n 1, 1) := by decide +kernel
theorem dX13_partUnit_5 : decode cX13_partUnit 5 = .ok (.iload_n 2, 1) := by decide +kernel
theorem dX13_partUnit_6 : decode cX13_partUnit 6 = .ok (.invokestatic 84, 3) := by decide +kernel
theorem dX13_partUnit_9 : decode cX13_partUnit 9 = .ok (.iconst 1, 1) := by decide +kernel
theorem dX13_partUnit_10 : decode cX13_partUnit 10 = .ok (.iadd, 1) := by decide +kernel
theorem dX13_partUnit_11 : decode cX13_partUnit 11 = .ok (.iaload, 1) := by decide +kernel
theorem dX13_partUnit_12 : decode cX13_partUnit 12 = .ok (.bipush 8, 2) := by decide +kernel
theorem dX13_partUnit_14 : decode cX13_partUnit 14 = .ok (.iload_n 3, 1) := by decide +kernel
theorem dX13_partUnit_15 : decode cX13_partUnit 15 = .ok (.imul, 1) := by decide +kernel
theorem dX13_partUnit_16 : decode cX13_partUnit 16 = .ok (.ishr, 1) := by decide +kernel
theorem dX13_partUnit_17 : decode cX13_partUnit 17 = .ok (.sipush 255, 3) := by decide +kernel
theorem dX13_partUnit_20 : decode cX13_partUnit 20 = .ok (.iand, 1) := by decide +kernel
theorem dX13_partUnit_21 : decode cX13_partUnit 21 = .ok (.ireturn, 1) := by decide +kernel
theorem dX13_part_0 : decode cX13_part 0 = .ok (.aload_n 0, 1) := by decide +kernel
theorem dX13_part_1 : decode cX13_part 1 = .ok (.getfield 7, 3) := by decide +kernel
theorem dX13_part_4 : decode cX13_part 4 = .ok (.iload_n 1, 1) := by decide +kernel
theorem dX13_part_5 : decode cX13_part 5 = .ok (.bipush 10, 2) := by decide +kernel
theorem dX13_part_7 : decode cX13_part 7 = .ok (.iload_n 2, 1) := by decide +kernel
theorem dX13_part_8 : decode cX13_part 8 = .ok (.iadd, 1) := by decide +kernel
theorem dX13_part_9 : decode cX13_part 9 = .ok (.invokestatic 72, 3) := by decide +kernel
theorem dX13_part_12 : decode cX13_part 12 = .ok (.iaload, 1) := by decide +kernel
theorem dX13_part_13 : decode cX13_part 13 = .ok (.ireturn, 1) := by decide +kernel
theorem dX13_inState_0 : decode cX13_inState 0 = .ok (.iconst 0, 1) := by decide +kernel
theorem dX13_inState_1 : decode cX13_inState 1 = .ok (.istore_n 3, 1) := by decide +kernel
theorem dX13_inState_2 : decode cX13_inState 2 = .ok (.iconst 0, 1) := by decide +kernel
theorem dX13_inState_3 : decode cX13_inState 3 = .ok (.istore 4, 2) := by decide +kernel
theorem dX13_inState_5 : decode cX13_inState 5 = .ok (.iload 4, 2) := by decide +kernel
theorem dX13_inState_7 : decode cX13_inState 7 = .ok (.aload_n 0, 1) := by decide +kernel
theorem dX13_inState_8 : decode cX13_inState 8 = .ok (.iload_n 1, 1) := by decide +kernel
theorem dX13_inState_9 : decode cX13_inState 9 = .ok (.invokevirtual 80, 3) := by decide +kernel
theorem dX13_inState_12 : decode cX13_inState 12 = .ok (.if_icmp .ge 28, 3) := by decide +kernel
theorem dX13_inState_15 : decode cX13_inState 15 = .ok (.iload_n 3, 1) := by decide +kernel
theorem dX13_inState_16 : decode cX13_inState 16 = .ok (.aload_n 0, 1) := by decide +kernel
theorem dX13_inState_17 : decode cX13_inState 17 = .ok (.iload_n 1, 1) := by decide +kernel
theorem dX13_inState_18 : decode cX13_inState 18 = .ok (.iload 4, 2) := by decide +kernel
theorem dX13_inState_20 : decode cX13_inState 20 = .ok (.invokevirtual 93, 3) := by decide +kernel
theorem dX13_inState_23 : decode cX13_inState 23 = .ok (.iload_n 2, 1) := by decide +kernel
theorem dX13_inState_24 : decode cX13_inState 24 = .ok (.if_icmp .ne 7, 3) := by decide +kernel
theorem dX13_inState_27 : decode cX13_inState 27 = .ok (.iconst 1, 1) := by decide +kernel
theorem dX13_inState_28 : decode cX13_inState 28 = .ok (.goto 4, 3) := by decide +kernel
theorem dX13_inState_31 : decode cX13_inState 31 = .ok (.iconst 0, 1) := by decide +kernel
theorem dX13_inState_32 : decode cX13_inState 32 = .ok (.iadd, 1) := by decide +kernel
theorem dX13_inState_33 : decode cX13_inState 33 = .ok (.istore_n 3, 1) := by decide +kernel
theorem dX13_inState_34 : decode cX13_inState 34 = .ok (.iinc 4 1, 3) := by decide +kernel
theorem dX13_inState_37 : decode cX13_inState 37 = .ok (.goto (-32), 3) := by decide +kernel
theorem dX13_inState_40 : decode cX13_inState 40 = .ok (.iload_n 3, 1) := by decide +kernel
theorem dX13_inState_41 : decode cX13_inState 41 = .ok (.ireturn, 1) := by decide +kernel
theorem dX13_badHere_0 : decode cX13_badHere 0 = .ok (.iconst 0, 1) := by decide +kernel
theorem dX13_badHere_1 : decode cX13_badHere 1 = .ok (.istore_n 2, 1) := by decide +kernel
theorem dX13_badHere_2 : decode cX13_badHere 2 = .ok (.iconst 0, 1) := by decide +kernel
theorem dX13_badHere_3 : decode cX13_badHere 3 = .ok (.istore_n 3, 1) := by decide +kernel
theorem dX13_badHere_4 : decode cX13_badHere 4 = .ok (.iload_n 3, 1) := by decide +kernel
theorem dX13_badHere_5 : decode cX13_badHere 5 = .ok (.aload_n 0, 1) := by decide +kernel
theorem dX13_badHere_6 : decode cX13_badHere 6 = .ok (.iload_n 1, 1) := by decide +kernel
theorem dX13_badHere_7 : decode cX13_badHere 7 = .ok (.invokevirtual 80, 3) := by decide +kernel
theorem dX13_badHere_10 : decode cX13_badHere 10 = .ok (.if_icmp .ge 35, 3) := by decide +kernel
theorem dX13_badHere_13 : decode cX13_badHere 13 = .ok (.iload_n 2, 1) := by decide +kernel
theorem dX13_badHere_14 : decode cX13_badHere 14 = .ok (.aload_n 0, 1) := by decide +kernel
theorem dX13_badHere_15 : decode cX13_badHere 15 = .ok (.iload_n 1, 1) := by decide +kernel
theorem dX13_badHere_16 : decode cX13_badHere 16 = .ok (.iload_n 3, 1) := by decide +kernel
theorem dX13_badHere_17 : decode cX13_badHere 17 = .ok (.invokevirtual 93, 3) := by decide +kernel
theorem dX13_badHere_20 : decode cX13_badHere 20 = .ok (.ifCond .ne 16, 3) := by decide +kernel
theorem dX13_badHere_23 : decode cX13_badHere 23 = .ok (.aload_n 0, 1) := by decide +kernel
theorem dX13_badHere_24 : decode cX13_badHere 24 = .ok (.iload_n 1, 1) := by decide +kernel
theorem dX13_badHere_25 : decode cX13_badHere 25 = .ok (.iload_n 3, 1) := by decide +kernel
theorem dX13_badHere_26 : decode cX13_badHere 26 = .ok (.invokevirtual 96, 3) := by decide +kernel
theorem dX13_badHere_29 : decode cX13_badHere 29 = .ok (.ifCond .eq 7, 3) := by decide +kernel
theorem dX13_badHere_32 : decode cX13_badHere 32 = .ok (.iconst 1, 1) := by decide +kernel
theorem dX13_badHere_33 : decode cX13_badHere 33 = .ok (.goto 4, 3) := by decide +kernel
theorem dX13_badHere_36 : decode cX13_badHere 36 = .ok (.iconst 0, 1) := by decide +kernel
theorem dX13_badHere_37 : decode cX13_badHere 37 = .ok (.iadd, 1) := by decide +kernel
theorem dX13_badHere_38 : decode cX13_badHere 38 = .ok (.istore_n 2, 1) := by decide +kernel
theorem dX13_badHere_39 : decode cX13_badHere 39 = .ok (.iinc 3 1, 3) := by decide +kernel
theorem dX13_badHere_42 : decode cX13_badHere 42 = .ok (.goto (-38), 3) := by decide +kernel
theorem dX13_badHere_45 : decode cX13_badHere 45 = .ok (.iload_n 2, 1) := by decide +kernel
theorem dX13_badHere_46 : decode cX13_badHere 46 = .ok (.ireturn, 1) := by decide +kernel
theorem dX13_works_0 : decode cX13_works 0 = .ok (.iconst 4, 1) := by decide +kernel
theorem dX13_works_1 : decode cX13_works 1 = .ok (.iconst 3, 1) := by decide +kernel
theorem dX13_works_2 : decode cX13_works 2 = .ok (.iload_n 1, 1) := by decide +kernel
theorem dX13_works_3 : decode cX13_works 3 = .ok (.imul, 1) := by decide +kernel
theorem dX13_works_4 : decode cX13_works 4 = .ok (.iadd, 1) := by decide +kernel
theorem dX13_works_5 : decode cX13_works 5 = .ok (.istore 4, 2) := by decide +kernel
theorem dX13_works_7 : decode cX13_works 7 = .ok (.aload_n 0, 1) := by decide +kernel
theorem dX13_works_8 : decode cX13_works 8 = .ok (.getfield 7, 3) := by decide +kernel
theorem dX13_works_11 : decode cX13_works 11 = .ok (.iload 4, 2) := by decide +kernel
theorem dX13_works_13 : decode cX13_works 13 = .ok (.iconst 2, 1) := by decide +kernel
theorem dX13_works_14 : decode cX13_works 14 = .ok (.iadd, 1) := by decide +kernel
theorem dX13_works_15 : decode cX13_works 15 = .ok (.dup2, 1) := by decide +kernel
theorem dX13_works_16 : decode cX13_works 16 = .ok (.iaload, 1) := by decide +kernel
theorem dX13_works_17 : decode cX13_works 17 = .ok (.iconst 1, 1) := by decide +kernel
theorem dX13_works_18 : decode cX13_works 18 = .ok (.iadd, 1) := by decide +kernel
theorem dX13_works_19 : decode cX13_works 19 = .ok (.iastore, 1) := by decide +kernel
theorem dX13_works_20 : decode cX13_works 20 = .ok (.aload_n 0, 1) := by decide +kernel
theorem dX13_works_21 : decode cX13_works 21 = .ok (.getfield 7, 3) := by decide +kernel
theorem dX13_works_24 : decode cX13_works 24 = .ok (.iload 4, 2) := by decide +kernel
theorem dX13_works_26 : decode cX13_works 26 = .ok (.iaload, 1) := by decide +kernel
theorem dX13_works_27 : decode cX13_works 27 = .ok (.ifCond .le 39, 3) := by decide +kernel
theorem dX13_works_30 : decode cX13_works 30 = .ok (.aload_n 0, 1) := by decide +kernel
theorem dX13_works_31 : decode cX13_works 31 = .ok (.getfield 7, 3) := by decide +kernel
theorem dX13_works_34 : decode cX13_works 34 = .ok (.iload 4, 2) := by decide +kernel
theorem dX13_works_36 : decode cX13_works 36 = .ok (.iconst 2, 1) := by decide +kernel
theorem dX13_works_37 : decode cX13_works 37 = .ok (.iadd, 1) := by decide +kernel
theorem dX13_works_38 : decode cX13_works 38 = .ok (.iaload, 1) := by decide +kernel
theorem dX13_works_39 : decode cX13_works 39 = .ok (.aload_n 0, 1) := by decide +kernel
theorem dX13_works_40 : decode cX13_works 40 = .ok (.getfield 7, 3) := by decide +kernel
theorem dX13_works_43 : decode cX13_works 43 = .ok (.iload 4, 2) := by decide +kernel
theorem dX13_works_45 : decode cX13_works 45 = .ok (.iaload, 1) := by decide +kernel
theorem dX13_works_46 : decode cX13_works 46 = .ok (.irem, 1) := by decide +kernel
theorem dX13_works_47 : decode cX13_works 47 = .ok (.ifCond .ne 19, 3) := by decide +kernel
theorem dX13_works_50 : decode cX13_works 50 = .ok (.aload_n 0, 1) := by decide +kernel
theorem dX13_works_51 : decode cX13_works 51 = .ok (.iload_n 2, 1) := by decide +kernel
theorem dX13_works_52 : decode cX13_works 52 = .ok (.iload_n 3, 1) := by decide +kernel
theorem dX13_works_53 : decode cX13_works 53 = .ok (.aload_n 0, 1) := by decide +kernel
theorem dX13_works_54 : decode cX13_works 54 = .ok (.getfield 7, 3) := by decide +kernel
theorem dX13_works_57 : decode cX13_works 57 = .ok (.iload 4, 2) := by decide +kernel
theorem dX13_works_59 : decode cX13_works 59 = .ok (.iconst 1, 1) := by decide +kernel
theorem dX13_works_60 : decode cX13_works 60 = .ok (.iadd, 1) := by decide +kernel
theorem dX13_works_61 : decode cX13_works 61 = .ok (.iaload, 1) := by decide +kernel
theorem dX13_works_62 : decode cX13_works 62 = .ok (.iconst 1, 1) := by decide +kernel
theorem dX13_works_63 : decode cX13_works 63 = .ok (.invokevirtual 100, 3) := by decide +kernel
theorem dX13_works_66 : decode cX13_works 66 = .ok (.return_, 1) := by decide +kernel
theorem dX13_againstMachine_0 : decode cX13_againstMachine 0 = .ok (.iload_n 0, 1) := by decide +kernel
theorem dX13_againstMachine_1 : decode cX13_againstMachine 1 = .ok (.invokestatic 104, 3) := by decide +kernel
theorem dX13_againstMachine_4 : decode cX13_againstMachine 4 = .ok (.ifCond .eq 30, 3) := by decide +kernel
theorem dX13_againstMachine_7 : decode cX13_againstMachine 7 = .ok (.iload_n 1, 1) := by decide +kernel
theorem dX13_againstMachine_8 : decode cX13_againstMachine 8 = .ok (.iconst 0, 1) := by decide +kernel
theorem dX13_againstMachine_9 : decode cX13_againstMachine 9 = .ok (.bipush 50, 2) := by decide +kernel
theorem dX13_againstMachine_11 : decode cX13_againstMachine 11 = .ok (.invokestatic 68, 3) := by decide +kernel
theorem dX13_againstMachine_14 : decode cX13_againstMachine 14 = .ok (.ifCond .eq 16, 3) := by decide +kernel
theorem dX13_againstMachine_17 : decode cX13_againstMachine 17 = .ok (.iload_n 2, 1) := by decide +kernel
theorem dX13_againstMachine_18 : decode cX13_againstMachine 18 = .ok (.iconst 0, 1) := by decide +kernel
theorem dX13_againstMachine_19 : decode cX13_againstMachine 19 = .ok (.iconst 3, 1) := by decide +kernel
theorem dX13_againstMachine_20 : decode cX13_againstMachine 20 = .ok (.invokestatic 68, 3) := by decide +kernel
theorem dX13_againstMachine_23 : decode cX13_againstMachine 23 = .ok (.ifCond .eq 7, 3) := by decide +kernel
theorem dX13_againstMachine_26 : decode cX13_againstMachine 26 = .ok (.iconst 0, 1) := by decide +kernel
theorem dX13_againstMachine_27 : decode cX13_againstMachine 27 = .ok (.goto 8, 3) := by decide +kernel
theorem dX13_againstMachine_30 : decode cX13_againstMachine 30 = .ok (.iconst 2, 1) := by decide +kernel
theorem dX13_againstMachine_31 : decode cX13_againstMachine 31 = .ok (.goto 4, 3) := by decide +kernel
theorem dX13_againstMachine_34 : decode cX13_againstMachine 34 = .ok (.iconst 1, 1) := by decide +kernel
theorem dX13_againstMachine_35 : decode cX13_againstMachine 35 = .ok (.ireturn, 1) := by decide +kernel
theorem dX13_machineNow_0 : decode cX13_machineNow 0 = .ok (.iconst 4, 1) := by decide +kernel
theorem dX13_machineNow_1 : decode cX13_machineNow 1 = .ok (.iconst 3, 1) := by decide +kernel
theorem dX13_machineNow_2 : decode cX13_machineNow 2 = .ok (.iload_n 1, 1) := by decide +kernel
theorem dX13_machineNow_3 : decode cX13_machineNow 3 = .ok (.imul, 1) := by decide +kernel
theorem dX13_machineNow_4 : decode cX13_machineNow 4 = .ok (.iadd, 1) := by decide +kernel
theorem dX13_machineNow_5 : decode cX13_machineNow 5 = .ok (.istore 4, 2) := by decide +kernel
theorem dX13_machineNow_7 : decode cX13_machineNow 7 = .ok (.bipush 10, 2) := by decide +kernel
theorem dX13_machineNow_9 : decode cX13_machineNow 9 = .ok (.aload_n 0, 1) := by decide +kernel
theorem dX13_machineNow_10 : decode cX13_machineNow 10 = .ok (.getfield 7, 3) := by decide +kernel
theorem dX13_machineNow_13 : decode cX13_machineNow 13 = .ok (.iload 4, 2) := by decide +kernel
theorem dX13_machineNow_15 : decode cX13_machineNow 15 = .ok (.iaload, 1) := by decide +kernel
theorem dX13_machineNow_16 : decode cX13_machineNow 16 = .ok (.imul, 1) := by decide +kernel
theorem dX13_machineNow_17 : decode cX13_machineNow 17 = .ok (.aload_n 0, 1) := by decide +kernel
theorem dX13_machineNow_18 : decode cX13_machineNow 18 = .ok (.getfield 7, 3) := by decide +kernel
theorem dX13_machineNow_21 : decode cX13_machineNow 21 = .ok (.iload 4, 2) := by decide +kernel
theorem dX13_machineNow_23 : decode cX13_machineNow 23 = .ok (.iconst 1, 1) := by decide +kernel
theorem dX13_machineNow_24 : decode cX13_machineNow 24 = .ok (.iadd, 1) := by decide +kernel
theorem dX13_machineNow_25 : decode cX13_machineNow 25 = .ok (.iaload, 1) := by decide +kernel
theorem dX13_machineNow_26 : decode cX13_machineNow 26 = .ok (.iadd, 1) := by decide +kernel
theorem dX13_machineNow_27 : decode cX13_machineNow 27 = .ok (.istore 5, 2) := by decide +kernel
theorem dX13_machineNow_29 : decode cX13_machineNow 29 = .ok (.aload_n 0, 1) := by decide +kernel
theorem dX13_machineNow_30 : decode cX13_machineNow 30 = .ok (.getfield 7, 3) := by decide +kernel
theorem dX13_machineNow_33 : decode cX13_machineNow 33 = .ok (.iload 4, 2) := by decide +kernel
theorem dX13_machineNow_35 : decode cX13_machineNow 35 = .ok (.iload_n 2, 1) := by decide +kernel
theorem dX13_machineNow_36 : decode cX13_machineNow 36 = .ok (.iastore, 1) := by decide +kernel
theorem dX13_machineNow_37 : decode cX13_machineNow 37 = .ok (.aload_n 0, 1) := by decide +kernel
theorem dX13_machineNow_38 : decode cX13_machineNow 38 = .ok (.getfield 7, 3) := by decide +kernel
theorem dX13_machineNow_41 : decode cX13_machineNow 41 = .ok (.iload 4, 2) := by decide +kernel
theorem dX13_machineNow_43 : decode cX13_machineNow 43 = .ok (.iconst 1, 1) := by decide +kernel
theorem dX13_machineNow_44 : decode cX13_machineNow 44 = .ok (.iadd, 1) := by decide +kernel
theorem dX13_machineNow_45 : decode cX13_machineNow 45 = .ok (.iload_n 3, 1) := by decide +kernel
theorem dX13_machineNow_46 : decode cX13_machineNow 46 = .ok (.iastore, 1) := by decide +kernel
theorem dX13_machineNow_47 : decode cX13_machineNow 47 = .ok (.iload 5, 2) := by decide +kernel
theorem dX13_machineNow_49 : decode cX13_machineNow 49 = .ok (.ireturn, 1) := by decide +kernel
theorem dX13_machine_0 : decode cX13_machine 0 = .ok (.aload_n 0, 1) := by decide +kernel
theorem dX13_machine_1 : decode cX13_machine 1 = .ok (.iload_n 1, 1) := by decide +kernel
theorem dX13_machine_2 : decode cX13_machine 2 = .ok (.iload_n 2, 1) := by decide +kernel
theorem dX13_machine_3 : decode cX13_machine 3 = .ok (.iload_n 3, 1) := by decide +kernel
theorem dX13_machine_4 : decode cX13_machine 4 = .ok (.invokestatic 107, 3) := by decide +kernel
theorem dX13_machine_7 : decode cX13_machine 7 = .ok (.putfield 54, 3) := by decide +kernel
theorem dX13_machine_10 : decode cX13_machine 10 = .ok (.aload_n 0, 1) := by decide +kernel
theorem dX13_machine_11 : decode cX13_machine 11 = .ok (.getfield 54, 3) := by decide +kernel
theorem dX13_machine_14 : decode cX13_machine 14 = .ok (.ifCond .le 5, 3) := by decide +kernel
theorem dX13_machine_17 : decode cX13_machine 17 = .ok (.iconst 0, 1) := by decide +kernel
theorem dX13_machine_18 : decode cX13_machine 18 = .ok (.ireturn, 1) := by decide +kernel
theorem dX13_machine_19 : decode cX13_machine 19 = .ok (.aload_n 0, 1) := by decide +kernel
theorem dX13_machine_20 : decode cX13_machine 20 = .ok (.aload_n 0, 1) := by decide +kernel
theorem dX13_machine_21 : decode cX13_machine 21 = .ok (.getfield 7, 3) := by decide +kernel
theorem dX13_machine_24 : decode cX13_machine 24 = .ok (.invokevirtual 111, 3) := by decide +kernel
theorem dX13_machine_27 : decode cX13_machine 27 = .ok (.aload_n 0, 1) := by decide +kernel
theorem dX13_machine_28 : decode cX13_machine 28 = .ok (.iload_n 1, 1) := by decide +kernel
theorem dX13_machine_29 : decode cX13_machine 29 = .ok (.iload_n 2, 1) := by decide +kernel
theorem dX13_machine_30 : decode cX13_machine 30 = .ok (.iload_n 3, 1) := by decide +kernel
theorem dX13_machine_31 : decode cX13_machine 31 = .ok (.invokevirtual 115, 3) := by decide +kernel
theorem dX13_machine_34 : decode cX13_machine 34 = .ok (.ireturn, 1) := by decide +kernel
theorem dX13_worked_0 : decode cX13_worked 0 = .ok (.aload_n 0, 1) := by decide +kernel
theorem dX13_worked_1 : decode cX13_worked 1 = .ok (.iload_n 1, 1) := by decide +kernel
theorem dX13_worked_2 : decode cX13_worked 2 = .ok (.invokestatic 104, 3) := by decide +kernel
theorem dX13_worked_5 : decode cX13_worked 5 = .ok (.ifCond .eq 7, 3) := by decide +kernel
theorem dX13_worked_8 : decode cX13_worked 8 = .ok (.iconst 0, 1) := by decide +kernel
theorem dX13_worked_9 : decode cX13_worked 9 = .ok (.goto 4, 3) := by decide +kernel
theorem dX13_worked_12 : decode cX13_worked 12 = .ok (.iconst 1, 1) := by decide +kernel
theorem dX13_worked_13 : decode cX13_worked 13 = .ok (.putfield 54, 3) := by decide +kernel
theorem dX13_worked_16 : decode cX13_worked 16 = .ok (.aload_n 0, 1) := by decide +kernel
theorem dX13_worked_17 : decode cX13_worked 17 = .ok (.getfield 54, 3) := by decide +kernel
theorem dX13_worked_20 : decode cX13_worked 20 = .ok (.ifCond .le 7, 3) := by decide +kernel
theorem dX13_worked_23 : decode cX13_worked 23 = .ok (.iconst 0, 1) := by decide +kernel
theorem dX13_worked_24 : decode cX13_worked 24 = .ok (.goto 15, 3) := by decide +kernel
theorem dX13_worked_27 : decode cX13_worked 27 = .ok (.aload_n 0, 1) := by decide +kernel
theorem dX13_worked_28 : decode cX13_worked 28 = .ok (.getfield 7, 3) := by decide +kernel
theorem dX13_worked_31 : decode cX13_worked 31 = .ok (.iconst 4, 1) := by decide +kernel
theorem dX13_worked_32 : decode cX13_worked 32 = .ok (.iconst 3, 1) := by decide +kernel
theorem dX13_worked_33 : decode cX13_worked 33 = .ok (.iload_n 1, 1) := by decide +kernel
theorem dX13_worked_34 : decode cX13_worked 34 = .ok (.imul, 1) := by decide +kernel
theorem dX13_worked_35 : decode cX13_worked 35 = .ok (.iadd, 1) := by decide +kernel
theorem dX13_worked_36 : decode cX13_worked 36 = .ok (.iconst 2, 1) := by decide +kernel
theorem dX13_worked_37 : decode cX13_worked 37 = .ok (.iadd, 1) := by decide +kernel
theorem dX13_worked_38 : decode cX13_worked 38 = .ok (.iaload, 1) := by decide +kernel
theorem dX13_worked_39 : decode cX13_worked 39 = .ok (.ireturn, 1) := by decide +kernel
theorem dX13_againstProduct_0 : decode cX13_againstProduct 0 = .ok (.iload_n 0, 1) := by decide +kernel
theorem dX13_againstProduct_1 : decode cX13_againstProduct 1 = .ok (.invokestatic 118, 3) := by decide +kernel
theorem dX13_againstProduct_4 : decode cX13_againstProduct 4 = .ok (.ifCond .eq 41, 3) := by decide +kernel
theorem dX13_againstProduct_7 : decode cX13_againstProduct 7 = .ok (.iload_n 1, 1) := by decide +kernel
theorem dX13_againstProduct_8 : decode cX13_againstProduct 8 = .ok (.iconst 0, 1) := by decide +kernel
theorem dX13_againstProduct_9 : decode cX13_againstProduct 9 = .ok (.bipush 30, 2) := by decide +kernel
theorem dX13_againstProduct_11 : decode cX13_againstProduct 11 = .ok (.invokestatic 68, 3) := by decide +kernel
theorem dX13_againstProduct_14 : decode cX13_againstProduct 14 = .ok (.ifCond .eq 27, 3) := by decide +kernel
theorem dX13_againstProduct_17 : decode cX13_againstProduct 17 = .ok (.iload_n 2, 1) := by decide +kernel
theorem dX13_againstProduct_18 : decode cX13_againstProduct 18 = .ok (.iconst 0, 1) := by decide +kernel
theorem dX13_againstProduct_19 : decode cX13_againstProduct 19 = .ok (.bipush 15, 2) := by decide +kernel
theorem dX13_againstProduct_21 : decode cX13_againstProduct 21 = .ok (.invokestatic 68, 3) := by decide +kernel
theorem dX13_againstProduct_24 : decode cX13_againstProduct 24 = .ok (.ifCond .eq 17, 3) := by decide +kernel
theorem dX13_againstProduct_27 : decode cX13_againstProduct 27 = .ok (.iload_n 3, 1) := by decide +kernel
theorem dX13_againstProduct_28 : decode cX13_againstProduct 28 = .ok (.iconst 0, 1) := by decide +kernel
theorem dX13_againstProduct_29 : decode cX13_againstProduct 29 = .ok (.bipush 15, 2) := by decide +kernel
theorem dX13_againstProduct_31 : decode cX13_againstProduct 31 = .ok (.invokestatic 68, 3) := by decide +kernel
theorem dX13_againstProduct_34 : decode cX13_againstProduct 34 = .ok (.ifCond .eq 7, 3) := by decide +kernel
theorem dX13_againstProduct_37 : decode cX13_againstProduct 37 = .ok (.iconst 0, 1) := by decide +kernel
theorem dX13_againstProduct_38 : decode cX13_againstProduct 38 = .ok (.goto 8, 3) := by decide +kernel
theorem dX13_againstProduct_41 : decode cX13_againstProduct 41 = .ok (.iconst 2, 1) := by decide +kernel
theorem dX13_againstProduct_42 : decode cX13_againstProduct 42 = .ok (.goto 4, 3) := by decide +kernel
theorem dX13_againstProduct_45 : decode cX13_againstProduct 45 = .ok (.iconst 1, 1) := by decide +kernel
theorem dX13_againstProduct_46 : decode cX13_againstProduct 46 = .ok (.ireturn, 1) := by decide +kernel
theorem dX13_productNow_0 : decode cX13_productNow 0 = .ok (.aload_n 0, 1) := by decide +kernel
theorem dX13_productNow_1 : decode cX13_productNow 1 = .ok (.getfield 7, 3) := by decide +kernel
theorem dX13_productNow_4 : decode cX13_productNow 4 = .ok (.bipush 22, 2) := by decide +kernel
theorem dX13_productNow_6 : decode cX13_productNow 6 = .ok (.bipush 10, 2) := by decide +kernel
theorem dX13_productNow_8 : decode cX13_productNow 8 = .ok (.iload_n 1, 1) := by decide +kernel
theorem dX13_productNow_9 : decode cX13_productNow 9 = .ok (.imul, 1) := by decide +kernel
theorem dX13_productNow_10 : decode cX13_productNow 10 = .ok (.iadd, 1) := by decide +kernel
theorem dX13_productNow_11 : decode cX13_productNow 11 = .ok (.iaload, 1) := by decide +kernel
theorem dX13_productNow_12 : decode cX13_productNow 12 = .ok (.istore 5, 2) := by decide +kernel
theorem dX13_productNow_14 : decode cX13_productNow 14 = .ok (.aload_n 0, 1) := by decide +kernel
theorem dX13_productNow_15 : decode cX13_productNow 15 = .ok (.getfield 7, 3) := by decide +kernel
theorem dX13_productNow_18 : decode cX13_productNow 18 = .ok (.bipush 22, 2) := by decide +kernel
theorem dX13_productNow_20 : decode cX13_productNow 20 = .ok (.bipush 10, 2) := by decide +kernel
theorem dX13_productNow_22 : decode cX13_productNow 22 = .ok (.iload_n 1, 1) := by decide +kernel
theorem dX13_productNow_23 : decode cX13_productNow 23 = .ok (.imul, 1) := by decide +kernel
theorem dX13_productNow_24 : decode cX13_productNow 24 = .ok (.iadd, 1) := by decide +kernel
theorem dX13_productNow_25 : decode cX13_productNow 25 = .ok (.iload_n 2, 1) := by decide +kernel
theorem dX13_productNow_26 : decode cX13_productNow 26 = .ok (.iastore, 1) := by decide +kernel
theorem dX13_productNow_27 : decode cX13_productNow 27 = .ok (.aload_n 0, 1) := by decide +kernel
theorem dX13_productNow_28 : decode cX13_productNow 28 = .ok (.getfield 7, 3) := by decide +kernel
theorem dX13_productNow_31 : decode cX13_productNow 31 = .ok (.bipush 22, 2) := by decide +kernel
theorem dX13_productNow_33 : decode cX13_productNow 33 = .ok (.bipush 10, 2) := by decide +kernel
theorem dX13_productNow_35 : decode cX13_productNow 35 = .ok (.iload_n 1, 1) := by decide +kernel
theorem dX13_productNow_36 : decode cX13_productNow 36 = .ok (.imul, 1) := by decide +kernel
theorem dX13_productNow_37 : decode cX13_productNow 37 = .ok (.iadd, 1) := by decide +kernel
theorem dX13_productNow_38 : decode cX13_productNow 38 = .ok (.iconst 1, 1) := by decide +kernel
theorem dX13_productNow_39 : decode cX13_productNow 39 = .ok (.iadd, 1) := by decide +kernel
theorem dX13_productNow_40 : decode cX13_productNow 40 = .ok (.iload_n 3, 1) := by decide +kernel
theorem dX13_productNow_41 : decode cX13_productNow 41 = .ok (.iastore, 1) := by decide +kernel
theorem dX13_productNow_42 : decode cX13_productNow 42 = .ok (.aload_n 0, 1) := by decide +kernel
theorem dX13_productNow_43 : decode cX13_productNow 43 = .ok (.getfield 7, 3) := by decide +kernel
theorem dX13_productNow_46 : decode cX13_productNow 46 = .ok (.bipush 22, 2) := by decide +kernel
theorem dX13_productNow_48 : decode cX13_productNow 48 = .ok (.bipush 10, 2) := by decide +kernel
theorem dX13_productNow_50 : decode cX13_productNow 50 = .ok (.iload_n 1, 1) := by decide +kernel
theorem dX13_productNow_51 : decode cX13_productNow 51 = .ok (.imul, 1) := by decide +kernel
theorem dX13_productNow_52 : decode cX13_productNow 52 = .ok (.iadd, 1) := by decide +kernel
theorem dX13_productNow_53 : decode cX13_productNow 53 = .ok (.iconst 2, 1) := by decide +kernel
theorem dX13_productNow_54 : decode cX13_productNow 54 = .ok (.iadd, 1) := by decide +kernel
theorem dX13_productNow_55 : decode cX13_productNow 55 = .ok (.iload 4, 2) := by decide +kernel
theorem dX13_productNow_57 : decode cX13_productNow 57 = .ok (.iastore, 1) := by decide +kernel
theorem dX13_productNow_58 : decode cX13_productNow 58 = .ok (.iload 5, 2) := by decide +kernel
theorem dX13_productNow_60 : decode cX13_productNow 60 = .ok (.ireturn, 1) := by decide +kernel
theorem dX13_product_0 : decode cX13_product 0 = .ok (.aload_n 0, 1) := by decide +kernel
theorem dX13_product_1 : decode cX13_product 1 = .ok (.iload_n 1, 1) := by decide +kernel
theorem dX13_product_2 : decode cX13_product 2 = .ok (.iload_n 2, 1) := by decide +kernel
theorem dX13_product_3 : decode cX13_product 3 = .ok (.iload_n 3, 1) := by decide +kernel
theorem dX13_product_4 : decode cX13_product 4 = .ok (.iload 4, 2) := by decide +kernel
theorem dX13_product_6 : decode cX13_product 6 = .ok (.invokestatic 121, 3) := by decide +kernel
theorem dX13_product_9 : decode cX13_product 9 = .ok (.putfield 54, 3) := by decide +kernel
theorem dX13_product_12 : decode cX13_product 12 = .ok (.aload_n 0, 1) := by decide +kernel
theorem dX13_product_13 : decode cX13_product 13 = .ok (.getfield 54, 3) := by decide +kernel
theorem dX13_product_16 : decode cX13_product 16 = .ok (.ifCond .le 5, 3) := by decide +kernel
theorem dX13_product_19 : decode cX13_product 19 = .ok (.iconst 0, 1) := by decide +kernel
theorem dX13_product_20 : decode cX13_product 20 = .ok (.ireturn, 1) := by decide +kernel
theorem dX13_product_21 : decode cX13_product 21 = .ok (.aload_n 0, 1) := by decide +kernel
theorem dX13_product_22 : decode cX13_product 22 = .ok (.aload_n 0, 1) := by decide +kernel
theorem dX13_product_23 : decode cX13_product 23 = .ok (.getfield 7, 3) := by decide +kernel
theorem dX13_product_26 : decode cX13_product 26 = .ok (.invokevirtual 111, 3) := by decide +kernel
theorem dX13_product_29 : decode cX13_product 29 = .ok (.aload_n 0, 1) := by decide +kernel
theorem dX13_product_30 : decode cX13_product 30 = .ok (.iload_n 1, 1) := by decide +kernel
theorem dX13_product_31 : decode cX13_product 31 = .ok (.iload_n 2, 1) := by decide +kernel
theorem dX13_product_32 : decode cX13_product 32 = .ok (.iload_n 3, 1) := by decide +kernel
theorem dX13_product_33 : decode cX13_product 33 = .ok (.iload 4, 2) := by decide +kernel
theorem dX13_product_35 : decode cX13_product 35 = .ok (.invokevirtual 125, 3) := by decide +kernel
theorem dX13_product_38 : decode cX13_product 38 = .ok (.ireturn, 1) := by decide +kernel
theorem dX13_policy_0 : decode cX13_policy 0 = .ok (.aload_n 0, 1) := by decide +kernel
theorem dX13_policy_1 : decode cX13_policy 1 = .ok (.iload_n 1, 1) := by decide +kernel
theorem dX13_policy_2 : decode cX13_policy 2 = .ok (.invokestatic 118, 3) := by decide +kernel
theorem dX13_policy_5 : decode cX13_policy 5 = .ok (.ifCond .eq 21, 3) := by decide +kernel
theorem dX13_policy_8 : decode cX13_policy 8 = .ok (.iload_n 2, 1) := by decide +kernel
theorem dX13_policy_9 : decode cX13_policy 9 = .ok (.iconst 0, 1) := by decide +kernel
theorem dX13_policy_10 : decode cX13_policy 10 = .ok (.bipush 6, 2) := by decide +kernel
theorem dX13_policy_12 : decode cX13_policy 12 = .ok (.invokestatic 68, 3) := by decide +kernel
theorem dX13_policy_15 : decode cX13_policy 15 = .ok (.ifCond .eq 7, 3) := by decide +kernel
theorem dX13_policy_18 : decode cX13_policy 18 = .ok (.iconst 0, 1) := by decide +kernel
theorem dX13_policy_19 : decode cX13_policy 19 = .ok (.goto 8, 3) := by decide +kernel
theorem dX13_policy_22 : decode cX13_policy 22 = .ok (.iconst 2, 1) := by decide +kernel
theorem dX13_policy_23 : decode cX13_policy 23 = .ok (.goto 4, 3) := by decide +kernel
theorem dX13_policy_26 : decode cX13_policy 26 = .ok (.iconst 1, 1) := by decide +kernel
theorem dX13_policy_27 : decode cX13_policy 27 = .ok (.putfield 54, 3) := by decide +kernel
theorem dX13_policy_30 : decode cX13_policy 30 = .ok (.aload_n 0, 1) := by decide +kernel
theorem dX13_policy_31 : decode cX13_policy 31 = .ok (.getfield 54, 3) := by decide +kernel
theorem dX13_policy_34 : decode cX13_policy 34 = .ok (.ifCond .le 7, 3) := by decide +kernel
theorem dX13_policy_37 : decode cX13_policy 37 = .ok (.iconst 0, 1) := by decide +kernel
theorem dX13_policy_38 : decode cX13_policy 38 = .ok (.goto 17, 3) := by decide +kernel
theorem dX13_policy_41 : decode cX13_policy 41 = .ok (.aload_n 0, 1) := by decide +kernel
theorem dX13_policy_42 : decode cX13_policy 42 = .ok (.getfield 7, 3) := by decide +kernel
theorem dX13_policy_45 : decode cX13_policy 45 = .ok (.bipush 22, 2) := by decide +kernel
theorem dX13_policy_47 : decode cX13_policy 47 = .ok (.bipush 10, 2) := by decide +kernel
theorem dX13_policy_49 : decode cX13_policy 49 = .ok (.iload_n 1, 1) := by decide +kernel
theorem dX13_policy_50 : decode cX13_policy 50 = .ok (.imul, 1) := by decide +kernel
theorem dX13_policy_51 : decode cX13_policy 51 = .ok (.iadd, 1) := by decide +kernel
theorem dX13_policy_52 : decode cX13_policy 52 = .ok (.iload_n 2, 1) := by decide +kernel
theorem dX13_policy_53 : decode cX13_policy 53 = .ok (.iadd, 1) := by decide +kernel
theorem dX13_policy_54 : decode cX13_policy 54 = .ok (.iaload, 1) := by decide +kernel
theorem dX13_policy_55 : decode cX13_policy 55 = .ok (.ireturn, 1) := by decide +kernel
theorem dX13_bandOf_0 : decode cX13_bandOf 0 = .ok (.iload_n 0, 1) := by decide +kernel
theorem dX13_bandOf_1 : decode cX13_bandOf 1 = .ok (.bipush 8, 2) := by decide +kernel
theorem dX13_bandOf_3 : decode cX13_bandOf 3 = .ok (.if_icmp .gt 7, 3) := by decide +kernel
theorem dX13_bandOf_6 : decode cX13_bandOf 6 = .ok (.iconst 0, 1) := by decide +kernel
theorem dX13_bandOf_7 : decode cX13_bandOf 7 = .ok (.goto 56, 3) := by decide +kernel
theorem dX13_bandOf_10 : decode cX13_bandOf 10 = .ok (.iload_n 0, 1) := by decide +kernel
theorem dX13_bandOf_11 : decode cX13_bandOf 11 = .ok (.bipush 15, 2) := by decide +kernel
theorem dX13_bandOf_13 : decode cX13_bandOf 13 = .ok (.if_icmp .gt 7, 3) := by decide +kernel
theorem dX13_bandOf_16 : decode cX13_bandOf 16 = .ok (.iconst 1, 1) := by decide +kernel
theorem dX13_bandOf_17 : decode cX13_bandOf 17 = .ok (.goto 46, 3) := by decide +kernel
theorem dX13_bandOf_20 : decode cX13_bandOf 20 = .ok (.iload_n 0, 1) := by decide +kernel
theorem dX13_bandOf_21 : decode cX13_bandOf 21 = .ok (.bipush 25, 2) := by decide +kernel
theorem dX13_bandOf_23 : decode cX13_bandOf 23 = .ok (.if_icmp .gt 7, 3) := by decide +kernel
theorem dX13_bandOf_26 : decode cX13_bandOf 26 = .ok (.iconst 2, 1) := by decide +kernel
theorem dX13_bandOf_27 : decode cX13_bandOf 27 = .ok (.goto 36, 3) := by decide +kernel
theorem dX13_bandOf_30 : decode cX13_bandOf 30 = .ok (.iload_n 0, 1) := by decide +kernel
theorem dX13_bandOf_31 : decode cX13_bandOf 31 = .ok (.bipush 50, 2) := by decide +kernel
theorem dX13_bandOf_33 : decode cX13_bandOf 33 = .ok (.if_icmp .gt 7, 3) := by decide +kernel
theorem dX13_bandOf_36 : decode cX13_bandOf 36 = .ok (.iconst 3, 1) := by decide +kernel
theorem dX13_bandOf_37 : decode cX13_bandOf 37 = .ok (.goto 26, 3) := by decide +kernel
theorem dX13_bandOf_40 : decode cX13_bandOf 40 = .ok (.iload_n 0, 1) := by decide +kernel
theorem dX13_bandOf_41 : decode cX13_bandOf 41 = .ok (.bipush 90, 2) := by decide +kernel
theorem dX13_bandOf_43 : decode cX13_bandOf 43 = .ok (.if_icmp .gt 7, 3) := by decide +kernel
theorem dX13_bandOf_46 : decode cX13_bandOf 46 = .ok (.iconst 4, 1) := by decide +kernel
theorem dX13_bandOf_47 : decode cX13_bandOf 47 = .ok (.goto 16, 3) := by decide +kernel
theorem dX13_bandOf_50 : decode cX13_bandOf 50 = .ok (.iload_n 0, 1) := by decide +kernel
theorem dX13_bandOf_51 : decode cX13_bandOf 51 = .ok (.sipush 150, 3) := by decide +kernel
theorem dX13_bandOf_54 : decode cX13_bandOf 54 = .ok (.if_icmp .gt 7, 3) := by decide +kernel
theorem dX13_bandOf_57 : decode cX13_bandOf 57 = .ok (.iconst 5, 1) := by decide +kernel
theorem dX13_bandOf_58 : decode cX13_bandOf 58 = .ok (.goto 5, 3) := by decide +kernel
theorem dX13_bandOf_61 : decode cX13_bandOf 61 = .ok (.bipush 6, 2) := by decide +kernel
theorem dX13_bandOf_63 : decode cX13_bandOf 63 = .ok (.ireturn, 1) := by decide +kernel
theorem dX13_sizeOf_0 : decode cX13_sizeOf 0 = .ok (.iload_n 0, 1) := by decide +kernel
theorem dX13_sizeOf_1 : decode cX13_sizeOf 1 = .ok (.tableswitch 54 0 5 #[39, 41, 43, 45, 48, 51], 39) := by decide +kernel
theorem dX13_sizeOf_40 : decode cX13_sizeOf 40 = .ok (.iconst 2, 1) := by decide +kernel
theorem dX13_sizeOf_41 : decode cX13_sizeOf 41 = .ok (.ireturn, 1) := by decide +kernel
theorem dX13_sizeOf_42 : decode cX13_sizeOf 42 = .ok (.iconst 3, 1) := by decide +kernel
theorem dX13_sizeOf_43 : decode cX13_sizeOf 43 = .ok (.ireturn, 1) := by decide +kernel
theorem dX13_sizeOf_44 : decode cX13_sizeOf 44 = .ok (.iconst 5, 1) := by decide +kernel
theorem dX13_sizeOf_45 : decode cX13_sizeOf 45 = .ok (.ireturn, 1) := by decide +kernel
theorem dX13_sizeOf_46 : decode cX13_sizeOf 46 = .ok (.bipush 8, 2) := by decide +kernel
theorem dX13_sizeOf_48 : decode cX13_sizeOf 48 = .ok (.ireturn, 1) := by decide +kernel
theorem dX13_sizeOf_49 : decode cX13_sizeOf 49 = .ok (.bipush 13, 2) := by decide +kernel
theorem dX13_sizeOf_51 : decode cX13_sizeOf 51 = .ok (.ireturn, 1) := by decide +kernel
theorem dX13_sizeOf_52 : decode cX13_sizeOf 52 = .ok (.bipush 20, 2) := by decide +kernel
theorem dX13_sizeOf_54 : decode cX13_sizeOf 54 = .ok (.ireturn, 1) := by decide +kernel
theorem dX13_sizeOf_55 : decode cX13_sizeOf 55 = .ok (.bipush 32, 2) := by decide +kernel
theorem dX13_sizeOf_57 : decode cX13_sizeOf 57 = .ok (.ireturn, 1) := by decide +kernel
theorem dX13_sample_0 : decode cX13_sample 0 = .ok (.iload_n 0, 1) := by decide +kernel
theorem dX13_sample_1 : decode cX13_sample 1 = .ok (.invokestatic 128, 3) := by decide +kernel
theorem dX13_sample_4 : decode cX13_sample 4 = .ok (.iload_n 1, 1) := by decide +kernel
theorem dX13_sample_5 : decode cX13_sample 5 = .ok (.iconst 2, 1) := by decide +kernel
theorem dX13_sample_6 : decode cX13_sample 6 = .ok (.if_icmp .ne 7, 3) := by decide +kernel
theorem dX13_sample_9 : decode cX13_sample 9 = .ok (.iconst 2, 1) := by decide +kernel
theorem dX13_sample_10 : decode cX13_sample 10 = .ok (.goto 4, 3) := by decide +kernel
theorem dX13_sample_13 : decode cX13_sample 13 = .ok (.iconst 0, 1) := by decide +kernel
theorem dX13_sample_14 : decode cX13_sample 14 = .ok (.isub, 1) := by decide +kernel
theorem dX13_sample_15 : decode cX13_sample 15 = .ok (.istore_n 2, 1) := by decide +kernel
theorem dX13_sample_16 : decode cX13_sample 16 = .ok (.iload_n 2, 1) := by decide +kernel
theorem dX13_sample_17 : decode cX13_sample 17 = .ok (.ifCond .ge 7, 3) := by decide +kernel
theorem dX13_sample_20 : decode cX13_sample 20 = .ok (.iconst 0, 1) := by decide +kernel
theorem dX13_sample_21 : decode cX13_sample 21 = .ok (.goto 4, 3) := by decide +kernel
theorem dX13_sample_24 : decode cX13_sample 24 = .ok (.iload_n 2, 1) := by decide +kernel
theorem dX13_sample_25 : decode cX13_sample 25 = .ok (.invokestatic 131, 3) := by decide +kernel
theorem dX13_sample_28 : decode cX13_sample 28 = .ok (.istore_n 3, 1) := by decide +kernel
theorem dX13_sample_29 : decode cX13_sample 29 = .ok (.iload_n 3, 1) := by decide +kernel
theorem dX13_sample_30 : decode cX13_sample 30 = .ok (.iload_n 0, 1) := by decide +kernel
theorem dX13_sample_31 : decode cX13_sample 31 = .ok (.if_icmp .ge 7, 3) := by decide +kernel
theorem dX13_sample_34 : decode cX13_sample 34 = .ok (.iload_n 3, 1) := by decide +kernel
theorem dX13_sample_35 : decode cX13_sample 35 = .ok (.goto 4, 3) := by decide +kernel
theorem dX13_sample_38 : decode cX13_sample 38 = .ok (.iload_n 0, 1) := by decide +kernel
theorem dX13_sample_39 : decode cX13_sample 39 = .ok (.ireturn, 1) := by decide +kernel
theorem dX13_allowed_0 : decode cX13_allowed 0 = .ok (.iload_n 0, 1) := by decide +kernel
theorem dX13_allowed_1 : decode cX13_allowed 1 = .ok (.iload_n 1, 1) := by decide +kernel
theorem dX13_allowed_2 : decode cX13_allowed 2 = .ok (.imul, 1) := by decide +kernel
theorem dX13_allowed_3 : decode cX13_allowed 3 = .ok (.bipush 100, 2) := by decide +kernel
theorem dX13_allowed_5 : decode cX13_allowed 5 = .ok (.idiv, 1) := by decide +kernel
theorem dX13_allowed_6 : decode cX13_allowed 6 = .ok (.istore_n 3, 1) := by decide +kernel
theorem dX13_allowed_7 : decode cX13_allowed 7 = .ok (.iload_n 2, 1) := by decide +kernel
theorem dX13_allowed_8 : decode cX13_allowed 8 = .ok (.ifCond .ne 7, 3) := by decide +kernel
theorem dX13_allowed_11 : decode cX13_allowed 11 = .ok (.iload_n 3, 1) := by decide +kernel
theorem dX13_allowed_12 : decode cX13_allowed 12 = .ok (.goto 25, 3) := by decide +kernel
theorem dX13_allowed_15 : decode cX13_allowed 15 = .ok (.iload_n 2, 1) := by decide +kernel
theorem dX13_allowed_16 : decode cX13_allowed 16 = .ok (.iconst 2, 1) := by decide +kernel
theorem dX13_allowed_17 : decode cX13_allowed 17 = .ok (.if_icmp .ne 9, 3) := by decide +kernel
theorem dX13_allowed_20 : decode cX13_allowed 20 = .ok (.iload_n 3, 1) := by decide +kernel
theorem dX13_allowed_21 : decode cX13_allowed 21 = .ok (.iconst 1, 1) := by decide +kernel
theorem dX13_allowed_22 : decode cX13_allowed 22 = .ok (.iadd, 1) := by decide +kernel
theorem dX13_allowed_23 : decode cX13_allowed 23 = .ok (.goto 14, 3) := by decide +kernel
theorem dX13_allowed_26 : decode cX13_allowed 26 = .ok (.iload_n 3, 1) := by decide +kernel
theorem dX13_allowed_27 : decode cX13_allowed 27 = .ok (.ifCond .le 9, 3) := by decide +kernel
theorem dX13_allowed_30 : decode cX13_allowed 30 = .ok (.iload_n 3, 1) := by decide +kernel
theorem dX13_allowed_31 : decode cX13_allowed 31 = .ok (.iconst 1, 1) := by decide +kernel
theorem dX13_allowed_32 : decode cX13_allowed 32 = .ok (.isub, 1) := by decide +kernel
theorem dX13_allowed_33 : decode cX13_allowed 33 = .ok (.goto 4, 3) := by decide +kernel
theorem dX13_allowed_36 : decode cX13_allowed 36 = .ok (.iconst 0, 1) := by decide +kernel
theorem dX13_allowed_37 : decode cX13_allowed 37 = .ok (.ireturn, 1) := by decide +kernel
theorem dX13_table_0 : decode cX13_table 0 = .ok (.aload_n 0, 1) := by decide +kernel
theorem dX13_table_1 : decode cX13_table 1 = .ok (.iload_n 1, 1) := by decide +kernel
theorem dX13_table_2 : decode cX13_table 2 = .ok (.invokestatic 118, 3) := by decide +kernel
theorem dX13_table_5 : decode cX13_table 5 = .ok (.ifCond .eq 31, 3) := by decide +kernel
theorem dX13_table_8 : decode cX13_table 8 = .ok (.iload_n 2, 1) := by decide +kernel
theorem dX13_table_9 : decode cX13_table 9 = .ok (.iconst 1, 1) := by decide +kernel
theorem dX13_table_10 : decode cX13_table 10 = .ok (.sipush 200, 3) := by decide +kernel
theorem dX13_table_13 : decode cX13_table 13 = .ok (.invokestatic 68, 3) := by decide +kernel
theorem dX13_table_16 : decode cX13_table 16 = .ok (.ifCond .eq 16, 3) := by decide +kernel
theorem dX13_table_19 : decode cX13_table 19 = .ok (.iload_n 3, 1) := by decide +kernel
theorem dX13_table_20 : decode cX13_table 20 = .ok (.iconst 0, 1) := by decide +kernel
theorem dX13_table_21 : decode cX13_table 21 = .ok (.iconst 2, 1) := by decide +kernel
theorem dX13_table_22 : decode cX13_table 22 = .ok (.invokestatic 68, 3) := by decide +kernel
theorem dX13_table_25 : decode cX13_table 25 = .ok (.ifCond .eq 7, 3) := by decide +kernel
theorem dX13_table_28 : decode cX13_table 28 = .ok (.iconst 0, 1) := by decide +kernel
theorem dX13_table_29 : decode cX13_table 29 = .ok (.goto 8, 3) := by decide +kernel
theorem dX13_table_32 : decode cX13_table 32 = .ok (.iconst 2, 1) := by decide +kernel
theorem dX13_table_33 : decode cX13_table 33 = .ok (.goto 4, 3) := by decide +kernel
theorem dX13_table_36 : decode cX13_table 36 = .ok (.iconst 1, 1) := by decide +kernel
theorem dX13_table_37 : decode cX13_table 37 = .ok (.putfield 54, 3) := by decide +kernel
theorem dX13_table_40 : decode cX13_table 40 = .ok (.aload_n 0, 1) := by decide +kernel
theorem dX13_table_41 : decode cX13_table 41 = .ok (.getfield 54, 3) := by decide +kernel
theorem dX13_table_44 : decode cX13_table 44 = .ok (.ifCond .le 5, 3) := by decide +kernel
theorem dX13_table_47 : decode cX13_table 47 = .ok (.iconst 0, 1) := by decide +kernel
theorem dX13_table_48 : decode cX13_table 48 = .ok (.ireturn, 1) := by decide +kernel
theorem dX13_table_49 : decode cX13_table 49 = .ok (.iload_n 2, 1) := by decide +kernel
theorem dX13_table_50 : decode cX13_table 50 = .ok (.iload_n 3, 1) := by decide +kernel
theorem dX13_table_51 : decode cX13_table 51 = .ok (.invokestatic 134, 3) := by decide +kernel
theorem dX13_table_54 : decode cX13_table 54 = .ok (.istore 5, 2) := by decide +kernel
theorem dX13_table_56 : decode cX13_table 56 = .ok (.iload 4, 2) := by decide +kernel
theorem dX13_table_58 : decode cX13_table 58 = .ok (.ifCond .eq 8, 3) := by decide +kernel
theorem dX13_table_61 : decode cX13_table 61 = .ok (.iload 5, 2) := by decide +kernel
theorem dX13_table_63 : decode cX13_table 63 = .ok (.goto 21, 3) := by decide +kernel
theorem dX13_table_66 : decode cX13_table 66 = .ok (.iload 5, 2) := by decide +kernel
theorem dX13_table_68 : decode cX13_table 68 = .ok (.aload_n 0, 1) := by decide +kernel
theorem dX13_table_69 : decode cX13_table 69 = .ok (.getfield 7, 3) := by decide +kernel
theorem dX13_table_72 : decode cX13_table 72 = .ok (.bipush 22, 2) := by decide +kernel
theorem dX13_table_74 : decode cX13_table 74 = .ok (.bipush 10, 2) := by decide +kernel
theorem dX13_table_76 : decode cX13_table 76 = .ok (.iload_n 1, 1) := by decide +kernel
theorem dX13_table_77 : decode cX13_table 77 = .ok (.imul, 1) := by decide +kernel
theorem dX13_table_78 : decode cX13_table 78 = .ok (.iadd, 1) := by decide +kernel
theorem dX13_table_79 : decode cX13_table 79 = .ok (.iaload, 1) := by decide +kernel
theorem dX13_table_80 : decode cX13_table 80 = .ok (.iload_n 3, 1) := by decide +kernel
theorem dX13_table_81 : decode cX13_table 81 = .ok (.invokestatic 137, 3) := by decide +kernel
theorem dX13_table_84 : decode cX13_table 84 = .ok (.ireturn, 1) := by decide +kernel
theorem dX13_ones_0 : decode cX13_ones 0 = .ok (.iconst 0, 1) := by decide +kernel
theorem dX13_ones_1 : decode cX13_ones 1 = .ok (.istore_n 1, 1) := by decide +kernel
theorem dX13_ones_2 : decode cX13_ones 2 = .ok (.iconst 0, 1) := by decide +kernel
theorem dX13_ones_3 : decode cX13_ones 3 = .ok (.istore_n 2, 1) := by decide +kernel
theorem dX13_ones_4 : decode cX13_ones 4 = .ok (.iload_n 2, 1) := by decide +kernel
theorem dX13_ones_5 : decode cX13_ones 5 = .ok (.iconst 5, 1) := by decide +kernel
theorem dX13_ones_6 : decode cX13_ones 6 = .ok (.if_icmp .ge 17, 3) := by decide +kernel
theorem dX13_ones_9 : decode cX13_ones 9 = .ok (.iload_n 1, 1) := by decide +kernel
theorem dX13_ones_10 : decode cX13_ones 10 = .ok (.iload_n 0, 1) := by decide +kernel
theorem dX13_ones_11 : decode cX13_ones 11 = .ok (.iload_n 2, 1) := by decide +kernel
theorem dX13_ones_12 : decode cX13_ones 12 = .ok (.ishr, 1) := by decide +kernel
theorem dX13_ones_13 : decode cX13_ones 13 = .ok (.iconst 1, 1) := by decide +kernel
theorem dX13_ones_14 : decode cX13_ones 14 = .ok (.iand, 1) := by decide +kernel
theorem dX13_ones_15 : decode cX13_ones 15 = .ok (.iadd, 1) := by decide +kernel
theorem dX13_ones_16 : decode cX13_ones 16 = .ok (.istore_n 1, 1) := by decide +kernel
theorem dX13_ones_17 : decode cX13_ones 17 = .ok (.iinc 2 1, 3) := by decide +kernel
theorem dX13_ones_20 : decode cX13_ones 20 = .ok (.goto (-16), 3) := by decide +kernel
theorem dX13_ones_23 : decode cX13_ones 23 = .ok (.iload_n 1, 1) := by decide +kernel
theorem dX13_ones_24 : decode cX13_ones 24 = .ok (.ireturn, 1) := by decide +kernel
theorem dX13_severityBehind_0 : decode cX13_severityBehind 0 = .ok (.iload_n 2, 1) := by decide +kernel
theorem dX13_severityBehind_1 : decode cX13_severityBehind 1 = .ok (.iload_n 3, 1) := by decide +kernel
theorem dX13_severityBehind_2 : decode cX13_severityBehind 2 = .ok (.if_icmp .le 7, 3) := by decide +kernel
theorem dX13_severityBehind_5 : decode cX13_severityBehind 5 = .ok (.iconst 1, 1) := by decide +kernel
theorem dX13_severityBehind_6 : decode cX13_severityBehind 6 = .ok (.goto 4, 3) := by decide +kernel
theorem dX13_severityBehind_9 : decode cX13_severityBehind 9 = .ok (.iconst 0, 1) := by decide +kernel
theorem dX13_severityBehind_10 : decode cX13_severityBehind 10 = .ok (.istore 4, 2) := by decide +kernel
theorem dX13_severityBehind_12 : decode cX13_severityBehind 12 = .ok (.aload_n 0, 1) := by decide +kernel
theorem dX13_severityBehind_13 : decode cX13_severityBehind 13 = .ok (.getfield 7, 3) := by decide +kernel
theorem dX13_severityBehind_16 : decode cX13_severityBehind 16 = .ok (.iload_n 1, 1) := by decide +kernel
theorem dX13_severityBehind_17 : decode cX13_severityBehind 17 = .ok (.iconst 5, 1) := by decide +kernel
theorem dX13_severityBehind_18 : decode cX13_severityBehind 18 = .ok (.iadd, 1) := by decide +kernel
theorem dX13_severityBehind_19 : decode cX13_severityBehind 19 = .ok (.iaload, 1) := by decide +kernel
theorem dX13_severityBehind_20 : decode cX13_severityBehind 20 = .ok (.iconst 1, 1) := by decide +kernel
theorem dX13_severityBehind_21 : decode cX13_severityBehind 21 = .ok (.iadd, 1) := by decide +kernel
theorem dX13_severityBehind_22 : decode cX13_severityBehind 22 = .ok (.istore 5, 2) := by decide +kernel
theorem dX13_severityBehind_24 : decode cX13_severityBehind 24 = .ok (.aload_n 0, 1) := by decide +kernel
theorem dX13_severityBehind_25 : decode cX13_severityBehind 25 = .ok (.getfield 7, 3) := by decide +kernel
theorem dX13_severityBehind_28 : decode cX13_severityBehind 28 = .ok (.iload_n 1, 1) := by decide +kernel
theorem dX13_severityBehind_29 : decode cX13_severityBehind 29 = .ok (.bipush 7, 2) := by decide +kernel
theorem dX13_severityBehind_31 : decode cX13_severityBehind 31 = .ok (.iadd, 1) := by decide +kernel
theorem dX13_severityBehind_32 : decode cX13_severityBehind 32 = .ok (.iaload, 1) := by decide +kernel
theorem dX13_severityBehind_33 : decode cX13_severityBehind 33 = .ok (.iconst 1, 1) := by decide +kernel
theorem dX13_severityBehind_34 : decode cX13_severityBehind 34 = .ok (.ishl, 1) := by decide +kernel
theorem dX13_severityBehind_35 : decode cX13_severityBehind 35 = .ok (.bipush 31, 2) := by decide +kernel
theorem dX13_severityBehind_37 : decode cX13_severityBehind 37 = .ok (.iand, 1) := by decide +kernel
theorem dX13_severityBehind_38 : decode cX13_severityBehind 38 = .ok (.iload 4, 2) := by decide +kernel
theorem dX13_severityBehind_40 : decode cX13_severityBehind 40 = .ok (.ifCond .eq 7, 3) := by decide +kernel
theorem dX13_severityBehind_43 : decode cX13_severityBehind 43 = .ok (.iconst 1, 1) := by decide +kernel
theorem dX13_severityBehind_44 : decode cX13_severityBehind 44 = .ok (.goto 4, 3) := by decide +kernel
theorem dX13_severityBehind_47 : decode cX13_severityBehind 47 = .ok (.iconst 0, 1) := by decide +kernel
theorem dX13_severityBehind_48 : decode cX13_severityBehind 48 = .ok (.ior, 1) := by decide +kernel
theorem dX13_severityBehind_49 : decode cX13_severityBehind 49 = .ok (.istore 6, 2) := by decide +kernel
theorem dX13_severityBehind_51 : decode cX13_severityBehind 51 = .ok (.aload_n 0, 1) := by decide +kernel
theorem dX13_severityBehind_52 : decode cX13_severityBehind 52 = .ok (.getfield 7, 3) := by decide +kernel
theorem dX13_severityBehind_55 : decode cX13_severityBehind 55 = .ok (.iload_n 1, 1) := by decide +kernel
theorem dX13_severityBehind_56 : decode cX13_severityBehind 56 = .ok (.iconst 3, 1) := by decide +kernel
theorem dX13_severityBehind_57 : decode cX13_severityBehind 57 = .ok (.iadd, 1) := by decide +kernel
theorem dX13_severityBehind_58 : decode cX13_severityBehind 58 = .ok (.iaload, 1) := by decide +kernel
theorem dX13_severityBehind_59 : decode cX13_severityBehind 59 = .ok (.lookupswitch 114 #[(0, 25), (1, 71)], 25) := by decide +kernel
theorem dX13_severityBehind_84 : decode cX13_severityBehind 84 = .ok (.iload 4, 2) := by decide +kernel
theorem dX13_severityBehind_86 : decode cX13_severityBehind 86 = .ok (.ifCond .eq 18, 3) := by decide +kernel
theorem dX13_severityBehind_89 : decode cX13_severityBehind 89 = .ok (.iload 6, 2) := by decide +kernel
theorem dX13_severityBehind_91 : decode cX13_severityBehind 91 = .ok (.invokestatic 140, 3) := by decide +kernel
theorem dX13_severityBehind_94 : decode cX13_severityBehind 94 = .ok (.iconst 2, 1) := by decide +kernel
theorem dX13_severityBehind_95 : decode cX13_severityBehind 95 = .ok (.if_icmp .lt 7, 3) := by decide +kernel
theorem dX13_severityBehind_98 : decode cX13_severityBehind 98 = .ok (.iconst 1, 1) := by decide +kernel
theorem dX13_severityBehind_99 : decode cX13_severityBehind 99 = .ok (.goto 4, 3) := by decide +kernel
theorem dX13_severityBehind_102 : decode cX13_severityBehind 102 = .ok (.iconst 0, 1) := by decide +kernel
theorem dX13_severityBehind_103 : decode cX13_severityBehind 103 = .ok (.ireturn, 1) := by decide +kernel
theorem dX13_severityBehind_104 : decode cX13_severityBehind 104 = .ok (.iconst 2, 1) := by decide +kernel
theorem dX13_severityBehind_105 : decode cX13_severityBehind 105 = .ok (.iload_n 2, 1) := by decide +kernel
theorem dX13_severityBehind_106 : decode cX13_severityBehind 106 = .ok (.imul, 1) := by decide +kernel
theorem dX13_severityBehind_107 : decode cX13_severityBehind 107 = .ok (.iload_n 3, 1) := by decide +kernel
theorem dX13_severityBehind_108 : decode cX13_severityBehind 108 = .ok (.if_icmp .gt 20, 3) := by decide +kernel
theorem dX13_severityBehind_111 : decode cX13_severityBehind 111 = .ok (.aload_n 0, 1) := by decide +kernel
theorem dX13_severityBehind_112 : decode cX13_severityBehind 112 = .ok (.getfield 7, 3) := by decide +kernel
theorem dX13_severityBehind_115 : decode cX13_severityBehind 115 = .ok (.iload_n 1, 1) := by decide +kernel
theorem dX13_severityBehind_116 : decode cX13_severityBehind 116 = .ok (.iconst 4, 1) := by decide +kernel
theorem dX13_severityBehind_117 : decode cX13_severityBehind 117 = .ok (.iadd, 1) := by decide +kernel
theorem dX13_severityBehind_118 : decode cX13_severityBehind 118 = .ok (.iaload, 1) := by decide +kernel
theorem dX13_severityBehind_119 : decode cX13_severityBehind 119 = .ok (.bipush 12, 2) := by decide +kernel
theorem dX13_severityBehind_121 : decode cX13_severityBehind 121 = .ok (.if_icmp .ne 7, 3) := by decide +kernel
theorem dX13_severityBehind_124 : decode cX13_severityBehind 124 = .ok (.iconst 2, 1) := by decide +kernel
theorem dX13_severityBehind_125 : decode cX13_severityBehind 125 = .ok (.goto 4, 3) := by decide +kernel
theorem dX13_severityBehind_128 : decode cX13_severityBehind 128 = .ok (.iconst 0, 1) := by decide +kernel
theorem dX13_severityBehind_129 : decode cX13_severityBehind 129 = .ok (.ireturn, 1) := by decide +kernel
theorem dX13_severityBehind_130 : decode cX13_severityBehind 130 = .ok (.iload 4, 2) := by decide +kernel
theorem dX13_severityBehind_132 : decode cX13_severityBehind 132 = .ok (.ifCond .eq 24, 3) := by decide +kernel
theorem dX13_severityBehind_135 : decode cX13_severityBehind 135 = .ok (.aload_n 0, 1) := by decide +kernel
theorem dX13_severityBehind_136 : decode cX13_severityBehind 136 = .ok (.getfield 7, 3) := by decide +kernel
theorem dX13_severityBehind_139 : decode cX13_severityBehind 139 = .ok (.iload_n 1, 1) := by decide +kernel
theorem dX13_severityBehind_140 : decode cX13_severityBehind 140 = .ok (.bipush 6, 2) := by decide +kernel
theorem dX13_severityBehind_142 : decode cX13_severityBehind 142 = .ok (.iadd, 1) := by decide +kernel
theorem dX13_severityBehind_143 : decode cX13_severityBehind 143 = .ok (.iaload, 1) := by decide +kernel
theorem dX13_severityBehind_144 : decode cX13_severityBehind 144 = .ok (.iconst 1, 1) := by decide +kernel
theorem dX13_severityBehind_145 : decode cX13_severityBehind 145 = .ok (.iadd, 1) := by decide +kernel
theorem dX13_severityBehind_146 : decode cX13_severityBehind 146 = .ok (.iconst 5, 1) := by decide +kernel
theorem dX13_severityBehind_147 : decode cX13_severityBehind 147 = .ok (.if_icmp .lt 7, 3) := by decide +kernel
theorem dX13_severityBehind_150 : decode cX13_severityBehind 150 = .ok (.iconst 3, 1) := by decide +kernel
theorem dX13_severityBehind_151 : decode cX13_severityBehind 151 = .ok (.goto 4, 3) := by decide +kernel
theorem dX13_severityBehind_154 : decode cX13_severityBehind 154 = .ok (.iconst 1, 1) := by decide +kernel
theorem dX13_severityBehind_155 : decode cX13_severityBehind 155 = .ok (.ireturn, 1) := by decide +kernel
theorem dX13_severityBehind_156 : decode cX13_severityBehind 156 = .ok (.iload 5, 2) := by decide +kernel
theorem dX13_severityBehind_158 : decode cX13_severityBehind 158 = .ok (.iconst 5, 1) := by decide +kernel
theorem dX13_severityBehind_159 : decode cX13_severityBehind 159 = .ok (.if_icmp .lt 12, 3) := by decide +kernel
theorem dX13_severityBehind_162 : decode cX13_severityBehind 162 = .ok (.iload 6, 2) := by decide +kernel
theorem dX13_severityBehind_164 : decode cX13_severityBehind 164 = .ok (.ifCond .ne 7, 3) := by decide +kernel
theorem dX13_severityBehind_167 : decode cX13_severityBehind 167 = .ok (.iconst 0, 1) := by decide +kernel
theorem dX13_severityBehind_168 : decode cX13_severityBehind 168 = .ok (.goto 4, 3) := by decide +kernel
theorem dX13_severityBehind_171 : decode cX13_severityBehind 171 = .ok (.iconst 1, 1) := by decide +kernel
theorem dX13_severityBehind_172 : decode cX13_severityBehind 172 = .ok (.ireturn, 1) := by decide +kernel
theorem dX13_severityBehind_173 : decode cX13_severityBehind 173 = .ok (.iload 4, 2) := by decide +kernel
theorem dX13_severityBehind_175 : decode cX13_severityBehind 175 = .ok (.ifCond .ne 8, 3) := by decide +kernel
theorem dX13_severityBehind_178 : decode cX13_severityBehind 178 = .ok (.iload_n 2, 1) := by decide +kernel
theorem dX13_severityBehind_179 : decode cX13_severityBehind 179 = .ok (.iload_n 3, 1) := by decide +kernel
theorem dX13_severityBehind_180 : decode cX13_severityBehind 180 = .ok (.if_icmp .ne 7, 3) := by decide +kernel
theorem dX13_severityBehind_183 : decode cX13_severityBehind 183 = .ok (.iconst 0, 1) := by decide +kernel
theorem dX13_severityBehind_184 : decode cX13_severityBehind 184 = .ok (.goto 4, 3) := by decide +kernel
theorem dX13_severityBehind_187 : decode cX13_severityBehind 187 = .ok (.iconst 2, 1) := by decide +kernel
theorem dX13_severityBehind_188 : decode cX13_severityBehind 188 = .ok (.ireturn, 1) := by decide +kernel
theorem dX13_forgets_0 : decode cX13_forgets 0 = .ok (.aload_n 0, 1) := by decide +kernel
theorem dX13_forgets_1 : decode cX13_forgets 1 = .ok (.getfield 7, 3) := by decide +kernel
theorem dX13_forgets_4 : decode cX13_forgets 4 = .ok (.iload_n 1, 1) := by decide +kernel
theorem dX13_forgets_5 : decode cX13_forgets 5 = .ok (.iconst 3, 1) := by decide +kernel
theorem dX13_forgets_6 : decode cX13_forgets 6 = .ok (.iadd, 1) := by decide +kernel
theorem dX13_forgets_7 : decode cX13_forgets 7 = .ok (.iload_n 2, 1) := by decide +kernel
theorem dX13_forgets_8 : decode cX13_forgets 8 = .ok (.iastore, 1) := by decide +kernel
theorem dX13_forgets_9 : decode cX13_forgets 9 = .ok (.iconst 4, 1) := by decide +kernel
theorem dX13_forgets_10 : decode cX13_forgets 10 = .ok (.istore_n 3, 1) := by decide +kernel
theorem dX13_forgets_11 : decode cX13_forgets 11 = .ok (.iload_n 3, 1) := by decide +kernel
theorem dX13_forgets_12 : decode cX13_forgets 12 = .ok (.bipush 8, 2) := by decide +kernel
theorem dX13_forgets_14 : decode cX13_forgets 14 = .ok (.if_icmp .ge 18, 3) := by decide +kernel
theorem dX13_forgets_17 : decode cX13_forgets 17 = .ok (.aload_n 0, 1) := by decide +kernel
theorem dX13_forgets_18 : decode cX13_forgets 18 = .ok (.getfield 7, 3) := by decide +kernel
theorem dX13_forgets_21 : decode cX13_forgets 21 = .ok (.iload_n 1, 1) := by decide +kernel
theorem dX13_forgets_22 : decode cX13_forgets 22 = .ok (.iload_n 3, 1) := by decide +kernel
theorem dX13_forgets_23 : decode cX13_forgets 23 = .ok (.iadd, 1) := by decide +kernel
theorem dX13_forgets_24 : decode cX13_forgets 24 = .ok (.iconst 0, 1) := by decide +kernel
theorem dX13_forgets_25 : decode cX13_forgets 25 = .ok (.iastore, 1) := by decide +kernel
theorem dX13_forgets_26 : decode cX13_forgets 26 = .ok (.iinc 3 1, 3) := by decide +kernel
theorem dX13_forgets_29 : decode cX13_forgets 29 = .ok (.goto (-18), 3) := by decide +kernel
theorem dX13_forgets_32 : decode cX13_forgets 32 = .ok (.return_, 1) := by decide +kernel
theorem dX13_switches_0 : decode cX13_switches 0 = .ok (.aload_n 0, 1) := by decide +kernel
theorem dX13_switches_1 : decode cX13_switches 1 = .ok (.iload_n 1, 1) := by decide +kernel
theorem dX13_switches_2 : decode cX13_switches 2 = .ok (.iload_n 2, 1) := by decide +kernel
theorem dX13_switches_3 : decode cX13_switches 3 = .ok (.iload_n 3, 1) := by decide +kernel
theorem dX13_switches_4 : decode cX13_switches 4 = .ok (.invokevirtual 143, 3) := by decide +kernel
theorem dX13_switches_7 : decode cX13_switches 7 = .ok (.istore 4, 2) := by decide +kernel
theorem dX13_switches_9 : decode cX13_switches 9 = .ok (.iload 4, 2) := by decide +kernel
theorem dX13_switches_11 : decode cX13_switches 11 = .ok (.aload_n 0, 1) := by decide +kernel
theorem dX13_switches_12 : decode cX13_switches 12 = .ok (.getfield 7, 3) := by decide +kernel
theorem dX13_switches_15 : decode cX13_switches 15 = .ok (.iload_n 1, 1) := by decide +kernel
theorem dX13_switches_16 : decode cX13_switches 16 = .ok (.iconst 3, 1) := by decide +kernel
theorem dX13_switches_17 : decode cX13_switches 17 = .ok (.iadd, 1) := by decide +kernel
theorem dX13_switches_18 : decode cX13_switches 18 = .ok (.iaload, 1) := by decide +kernel
theorem dX13_switches_19 : decode cX13_switches 19 = .ok (.if_icmp .eq 11, 3) := by decide +kernel
theorem dX13_switches_22 : decode cX13_switches 22 = .ok (.aload_n 0, 1) := by decide +kernel
theorem dX13_switches_23 : decode cX13_switches 23 = .ok (.iload_n 1, 1) := by decide +kernel
theorem dX13_switches_24 : decode cX13_switches 24 = .ok (.iload 4, 2) := by decide +kernel
theorem dX13_switches_26 : decode cX13_switches 26 = .ok (.invokevirtual 146, 3) := by decide +kernel
theorem dX13_switches_29 : decode cX13_switches 29 = .ok (.return_, 1) := by decide +kernel
theorem dX13_switches_30 : decode cX13_switches 30 = .ok (.iload_n 2, 1) := by decide +kernel
theorem dX13_switches_31 : decode cX13_switches 31 = .ok (.iload_n 3, 1) := by decide +kernel
theorem dX13_switches_32 : decode cX13_switches 32 = .ok (.if_icmp .le 7, 3) := by decide +kernel
theorem dX13_switches_35 : decode cX13_switches 35 = .ok (.iconst 1, 1) := by decide +kernel
theorem dX13_switches_36 : decode cX13_switches 36 = .ok (.goto 4, 3) := by decide +kernel
theorem dX13_switches_39 : decode cX13_switches 39 = .ok (.iconst 0, 1) := by decide +kernel
theorem dX13_switches_40 : decode cX13_switches 40 = .ok (.istore 5, 2) := by decide +kernel
theorem dX13_switches_42 : decode cX13_switches 42 = .ok (.iload 4, 2) := by decide +kernel
theorem dX13_switches_44 : decode cX13_switches 44 = .ok (.ifCond .ne 37, 3) := by decide +kernel
theorem dX13_switches_47 : decode cX13_switches 47 = .ok (.aload_n 0, 1) := by decide +kernel
theorem dX13_switches_48 : decode cX13_switches 48 = .ok (.getfield 7, 3) := by decide +kernel
theorem dX13_switches_51 : decode cX13_switches 51 = .ok (.iload_n 1, 1) := by decide +kernel
theorem dX13_switches_52 : decode cX13_switches 52 = .ok (.iconst 4, 1) := by decide +kernel
theorem dX13_switches_53 : decode cX13_switches 53 = .ok (.iadd, 1) := by decide +kernel
theorem dX13_switches_54 : decode cX13_switches 54 = .ok (.iload 5, 2) := by decide +kernel
theorem dX13_switches_56 : decode cX13_switches 56 = .ok (.ifCond .ne 23, 3) := by decide +kernel
theorem dX13_switches_59 : decode cX13_switches 59 = .ok (.iconst 2, 1) := by decide +kernel
theorem dX13_switches_60 : decode cX13_switches 60 = .ok (.iload_n 2, 1) := by decide +kernel
theorem dX13_switches_61 : decode cX13_switches 61 = .ok (.imul, 1) := by decide +kernel
theorem dX13_switches_62 : decode cX13_switches 62 = .ok (.iload_n 3, 1) := by decide +kernel
theorem dX13_switches_63 : decode cX13_switches 63 = .ok (.if_icmp .gt 16, 3) := by decide +kernel
theorem dX13_switches_66 : decode cX13_switches 66 = .ok (.aload_n 0, 1) := by decide +kernel
theorem dX13_switches_67 : decode cX13_switches 67 = .ok (.getfield 7, 3) := by decide +kernel
theorem dX13_switches_70 : decode cX13_switches 70 = .ok (.iload_n 1, 1) := by decide +kernel
theorem dX13_switches_71 : decode cX13_switches 71 = .ok (.iconst 4, 1) := by decide +kernel
theorem dX13_switches_72 : decode cX13_switches 72 = .ok (.iadd, 1) := by decide +kernel
theorem dX13_switches_73 : decode cX13_switches 73 = .ok (.iaload, 1) := by decide +kernel
theorem dX13_switches_74 : decode cX13_switches 74 = .ok (.iconst 3, 1) := by decide +kernel
theorem dX13_switches_75 : decode cX13_switches 75 = .ok (.iadd, 1) := by decide +kernel
theorem dX13_switches_76 : decode cX13_switches 76 = .ok (.goto 4, 3) := by decide +kernel
theorem dX13_switches_79 : decode cX13_switches 79 = .ok (.iconst 0, 1) := by decide +kernel
theorem dX13_switches_80 : decode cX13_switches 80 = .ok (.iastore, 1) := by decide +kernel
theorem dX13_switches_81 : decode cX13_switches 81 = .ok (.aload_n 0, 1) := by decide +kernel
theorem dX13_switches_82 : decode cX13_switches 82 = .ok (.getfield 7, 3) := by decide +kernel
theorem dX13_switches_85 : decode cX13_switches 85 = .ok (.iload_n 1, 1) := by decide +kernel
theorem dX13_switches_86 : decode cX13_switches 86 = .ok (.iconst 5, 1) := by decide +kernel
theorem dX13_switches_87 : decode cX13_switches 87 = .ok (.iadd, 1) := by decide +kernel
theorem dX13_switches_88 : decode cX13_switches 88 = .ok (.dup2, 1) := by decide +kernel
theorem dX13_switches_89 : decode cX13_switches 89 = .ok (.iaload, 1) := by decide +kernel
theorem dX13_switches_90 : decode cX13_switches 90 = .ok (.iconst 1, 1) := by decide +kernel
theorem dX13_switches_91 : decode cX13_switches 91 = .ok (.iadd, 1) := by decide +kernel
theorem dX13_switches_92 : decode cX13_switches 92 = .ok (.iastore, 1) := by decide +kernel
theorem dX13_switches_93 : decode cX13_switches 93 = .ok (.aload_n 0, 1) := by decide +kernel
theorem dX13_switches_94 : decode cX13_switches 94 = .ok (.getfield 7, 3) := by decide +kernel
theorem dX13_switches_97 : decode cX13_switches 97 = .ok (.iload_n 1, 1) := by decide +kernel
theorem dX13_switches_98 : decode cX13_switches 98 = .ok (.bipush 6, 2) := by decide +kernel
theorem dX13_switches_100 : decode cX13_switches 100 = .ok (.iadd, 1) := by decide +kernel
theorem dX13_switches_101 : decode cX13_switches 101 = .ok (.dup2, 1) := by decide +kernel
theorem dX13_switches_102 : decode cX13_switches 102 = .ok (.iaload, 1) := by decide +kernel
theorem dX13_switches_103 : decode cX13_switches 103 = .ok (.iload 5, 2) := by decide +kernel
theorem dX13_switches_105 : decode cX13_switches 105 = .ok (.ifCond .eq 7, 3) := by decide +kernel
theorem dX13_switches_108 : decode cX13_switches 108 = .ok (.iconst 1, 1) := by decide +kernel
theorem dX13_switches_109 : decode cX13_switches 109 = .ok (.goto 4, 3) := by decide +kernel
theorem dX13_switches_112 : decode cX13_switches 112 = .ok (.iconst 0, 1) := by decide +kernel
theorem dX13_switches_113 : decode cX13_switches 113 = .ok (.iadd, 1) := by decide +kernel
theorem dX13_switches_114 : decode cX13_switches 114 = .ok (.iastore, 1) := by decide +kernel
theorem dX13_switches_115 : decode cX13_switches 115 = .ok (.aload_n 0, 1) := by decide +kernel
theorem dX13_switches_116 : decode cX13_switches 116 = .ok (.getfield 7, 3) := by decide +kernel
theorem dX13_switches_119 : decode cX13_switches 119 = .ok (.iload_n 1, 1) := by decide +kernel
theorem dX13_switches_120 : decode cX13_switches 120 = .ok (.bipush 7, 2) := by decide +kernel
theorem dX13_switches_122 : decode cX13_switches 122 = .ok (.iadd, 1) := by decide +kernel
theorem dX13_switches_123 : decode cX13_switches 123 = .ok (.aload_n 0, 1) := by decide +kernel
theorem dX13_switches_124 : decode cX13_switches 124 = .ok (.getfield 7, 3) := by decide +kernel
theorem dX13_switches_127 : decode cX13_switches 127 = .ok (.iload_n 1, 1) := by decide +kernel
theorem dX13_switches_128 : decode cX13_switches 128 = .ok (.bipush 7, 2) := by decide +kernel
theorem dX13_switches_130 : decode cX13_switches 130 = .ok (.iadd, 1) := by decide +kernel
theorem dX13_switches_131 : decode cX13_switches 131 = .ok (.iaload, 1) := by decide +kernel
theorem dX13_switches_132 : decode cX13_switches 132 = .ok (.iconst 1, 1) := by decide +kernel
theorem dX13_switches_133 : decode cX13_switches 133 = .ok (.ishl, 1) := by decide +kernel
theorem dX13_switches_134 : decode cX13_switches 134 = .ok (.bipush 31, 2) := by decide +kernel
theorem dX13_switches_136 : decode cX13_switches 136 = .ok (.iand, 1) := by decide +kernel
theorem dX13_switches_137 : decode cX13_switches 137 = .ok (.iload 5, 2) := by decide +kernel
theorem dX13_switches_139 : decode cX13_switches 139 = .ok (.ifCond .eq 7, 3) := by decide +kernel
theorem dX13_switches_142 : decode cX13_switches 142 = .ok (.iconst 1, 1) := by decide +kernel
theorem dX13_switches_143 : decode cX13_switches 143 = .ok (.goto 4, 3) := by decide +kernel
theorem dX13_switches_146 : decode cX13_switches 146 = .ok (.iconst 0, 1) := by decide +kernel
theorem dX13_switches_147 : decode cX13_switches 147 = .ok (.ior, 1) := by decide +kernel
theorem dX13_switches_148 : decode cX13_switches 148 = .ok (.iastore, 1) := by decide +kernel
theorem dX13_switches_149 : decode cX13_switches 149 = .ok (.return_, 1) := by decide +kernel
theorem dX13_afterwards_0 : decode cX13_afterwards 0 = .ok (.aload_n 0, 1) := by decide +kernel
theorem dX13_afterwards_1 : decode cX13_afterwards 1 = .ok (.iload_n 1, 1) := by decide +kernel
theorem dX13_afterwards_2 : decode cX13_afterwards 2 = .ok (.invokestatic 118, 3) := by decide +kernel
theorem dX13_afterwards_5 : decode cX13_afterwards 5 = .ok (.ifCond .ne 7, 3) := by decide +kernel
theorem dX13_afterwards_8 : decode cX13_afterwards 8 = .ok (.iconst 1, 1) := by decide +kernel
theorem dX13_afterwards_9 : decode cX13_afterwards 9 = .ok (.goto 52, 3) := by decide +kernel
theorem dX13_afterwards_12 : decode cX13_afterwards 12 = .ok (.iload_n 2, 1) := by decide +kernel
theorem dX13_afterwards_13 : decode cX13_afterwards 13 = .ok (.iconst 0, 1) := by decide +kernel
theorem dX13_afterwards_14 : decode cX13_afterwards 14 = .ok (.sipush 200, 3) := by decide +kernel
theorem dX13_afterwards_17 : decode cX13_afterwards 17 = .ok (.invokestatic 68, 3) := by decide +kernel
theorem dX13_afterwards_20 : decode cX13_afterwards 20 = .ok (.ifCond .eq 14, 3) := by decide +kernel
theorem dX13_afterwards_23 : decode cX13_afterwards 23 = .ok (.iload_n 3, 1) := by decide +kernel
theorem dX13_afterwards_24 : decode cX13_afterwards 24 = .ok (.iconst 0, 1) := by decide +kernel
theorem dX13_afterwards_25 : decode cX13_afterwards 25 = .ok (.sipush 200, 3) := by decide +kernel
theorem dX13_afterwards_28 : decode cX13_afterwards 28 = .ok (.invokestatic 68, 3) := by decide +kernel
theorem dX13_afterwards_31 : decode cX13_afterwards 31 = .ok (.ifCond .ne 7, 3) := by decide +kernel
theorem dX13_afterwards_34 : decode cX13_afterwards 34 = .ok (.iconst 2, 1) := by decide +kernel
theorem dX13_afterwards_35 : decode cX13_afterwards 35 = .ok (.goto 26, 3) := by decide +kernel
theorem dX13_afterwards_38 : decode cX13_afterwards 38 = .ok (.aload_n 0, 1) := by decide +kernel
theorem dX13_afterwards_39 : decode cX13_afterwards 39 = .ok (.getfield 7, 3) := by decide +kernel
theorem dX13_afterwards_42 : decode cX13_afterwards 42 = .ok (.bipush 22, 2) := by decide +kernel
theorem dX13_afterwards_44 : decode cX13_afterwards 44 = .ok (.bipush 10, 2) := by decide +kernel
theorem dX13_afterwards_46 : decode cX13_afterwards 46 = .ok (.iload_n 1, 1) := by decide +kernel
theorem dX13_afterwards_47 : decode cX13_afterwards 47 = .ok (.imul, 1) := by decide +kernel
theorem dX13_afterwards_48 : decode cX13_afterwards 48 = .ok (.iadd, 1) := by decide +kernel
theorem dX13_afterwards_49 : decode cX13_afterwards 49 = .ok (.iconst 3, 1) := by decide +kernel
theorem dX13_afterwards_50 : decode cX13_afterwards 50 = .ok (.iadd, 1) := by decide +kernel
theorem dX13_afterwards_51 : decode cX13_afterwards 51 = .ok (.iaload, 1) := by decide +kernel
theorem dX13_afterwards_52 : decode cX13_afterwards 52 = .ok (.iconst 3, 1) := by decide +kernel
theorem dX13_afterwards_53 : decode cX13_afterwards 53 = .ok (.if_icmp .ne 7, 3) := by decide +kernel
theorem dX13_afterwards_56 : decode cX13_afterwards 56 = .ok (.iconst 3, 1) := by decide +kernel
theorem dX13_afterwards_57 : decode cX13_afterwards 57 = .ok (.goto 4, 3) := by decide +kernel
theorem dX13_afterwards_60 : decode cX13_afterwards 60 = .ok (.iconst 0, 1) := by decide +kernel
theorem dX13_afterwards_61 : decode cX13_afterwards 61 = .ok (.putfield 54, 3) := by decide +kernel
theorem dX13_afterwards_64 : decode cX13_afterwards 64 = .ok (.aload_n 0, 1) := by decide +kernel
theorem dX13_afterwards_65 : decode cX13_afterwards 65 = .ok (.getfield 54, 3) := by decide +kernel
theorem dX13_afterwards_68 : decode cX13_afterwards 68 = .ok (.ifCond .le 7, 3) := by decide +kernel
theorem dX13_afterwards_71 : decode cX13_afterwards 71 = .ok (.iconst 0, 1) := by decide +kernel
theorem dX13_afterwards_72 : decode cX13_afterwards 72 = .ok (.goto 16, 3) := by decide +kernel
theorem dX13_afterwards_75 : decode cX13_afterwards 75 = .ok (.aload_n 0, 1) := by decide +kernel
theorem dX13_afterwards_76 : decode cX13_afterwards 76 = .ok (.bipush 22, 2) := by decide +kernel
theorem dX13_afterwards_78 : decode cX13_afterwards 78 = .ok (.bipush 10, 2) := by decide +kernel
theorem dX13_afterwards_80 : decode cX13_afterwards 80 = .ok (.iload_n 1, 1) := by decide +kernel
theorem dX13_afterwards_81 : decode cX13_afterwards 81 = .ok (.imul, 1) := by decide +kernel
theorem dX13_afterwards_82 : decode cX13_afterwards 82 = .ok (.iadd, 1) := by decide +kernel
theorem dX13_afterwards_83 : decode cX13_afterwards 83 = .ok (.iload_n 2, 1) := by decide +kernel
theorem dX13_afterwards_84 : decode cX13_afterwards 84 = .ok (.iload_n 3, 1) := by decide +kernel
theorem dX13_afterwards_85 : decode cX13_afterwards 85 = .ok (.invokevirtual 143, 3) := by decide +kernel
theorem dX13_afterwards_88 : decode cX13_afterwards 88 = .ok (.ireturn, 1) := by decide +kernel
theorem dX13_againstRelease_0 : decode cX13_againstRelease 0 = .ok (.iload_n 1, 1) := by decide +kernel
theorem dX13_againstRelease_1 : decode cX13_againstRelease 1 = .ok (.invokestatic 118, 3) := by decide +kernel
theorem dX13_againstRelease_4 : decode cX13_againstRelease 4 = .ok (.ifCond .eq 29, 3) := by decide +kernel
theorem dX13_againstRelease_7 : decode cX13_againstRelease 7 = .ok (.aload_n 0, 1) := by decide +kernel
theorem dX13_againstRelease_8 : decode cX13_againstRelease 8 = .ok (.getfield 7, 3) := by decide +kernel
theorem dX13_againstRelease_11 : decode cX13_againstRelease 11 = .ok (.bipush 22, 2) := by decide +kernel
theorem dX13_againstRelease_13 : decode cX13_againstRelease 13 = .ok (.bipush 10, 2) := by decide +kernel
theorem dX13_againstRelease_15 : decode cX13_againstRelease 15 = .ok (.iload_n 1, 1) := by decide +kernel
theorem dX13_againstRelease_16 : decode cX13_againstRelease 16 = .ok (.imul, 1) := by decide +kernel
theorem dX13_againstRelease_17 : decode cX13_againstRelease 17 = .ok (.iadd, 1) := by decide +kernel
theorem dX13_againstRelease_18 : decode cX13_againstRelease 18 = .ok (.iconst 3, 1) := by decide +kernel
theorem dX13_againstRelease_19 : decode cX13_againstRelease 19 = .ok (.iadd, 1) := by decide +kernel
theorem dX13_againstRelease_20 : decode cX13_againstRelease 20 = .ok (.iaload, 1) := by decide +kernel
theorem dX13_againstRelease_21 : decode cX13_againstRelease 21 = .ok (.iconst 3, 1) := by decide +kernel
theorem dX13_againstRelease_22 : decode cX13_againstRelease 22 = .ok (.if_icmp .ne 7, 3) := by decide +kernel
theorem dX13_againstRelease_25 : decode cX13_againstRelease 25 = .ok (.iconst 0, 1) := by decide +kernel
theorem dX13_againstRelease_26 : decode cX13_againstRelease 26 = .ok (.goto 8, 3) := by decide +kernel
theorem dX13_againstRelease_29 : decode cX13_againstRelease 29 = .ok (.iconst 2, 1) := by decide +kernel
theorem dX13_againstRelease_30 : decode cX13_againstRelease 30 = .ok (.goto 4, 3) := by decide +kernel
theorem dX13_againstRelease_33 : decode cX13_againstRelease 33 = .ok (.iconst 1, 1) := by decide +kernel
theorem dX13_againstRelease_34 : decode cX13_againstRelease 34 = .ok (.ireturn, 1) := by decide +kernel
theorem dX13_releaseNow_0 : decode cX13_releaseNow 0 = .ok (.aload_n 0, 1) := by decide +kernel
theorem dX13_releaseNow_1 : decode cX13_releaseNow 1 = .ok (.bipush 22, 2) := by decide +kernel
theorem dX13_releaseNow_3 : decode cX13_releaseNow 3 = .ok (.bipush 10, 2) := by decide +kernel
theorem dX13_releaseNow_5 : decode cX13_releaseNow 5 = .ok (.iload_n 1, 1) := by decide +kernel
theorem dX13_releaseNow_6 : decode cX13_releaseNow 6 = .ok (.imul, 1) := by decide +kernel
theorem dX13_releaseNow_7 : decode cX13_releaseNow 7 = .ok (.iadd, 1) := by decide +kernel
theorem dX13_releaseNow_8 : decode cX13_releaseNow 8 = .ok (.iconst 1, 1) := by decide +kernel
theorem dX13_releaseNow_9 : decode cX13_releaseNow 9 = .ok (.invokevirtual 146, 3) := by decide +kernel
theorem dX13_releaseNow_12 : decode cX13_releaseNow 12 = .ok (.iconst 0, 1) := by decide +kernel
theorem dX13_releaseNow_13 : decode cX13_releaseNow 13 = .ok (.istore_n 2, 1) := by decide +kernel
theorem dX13_releaseNow_14 : decode cX13_releaseNow 14 = .ok (.iconst 0, 1) := by decide +kernel
theorem dX13_releaseNow_15 : decode cX13_releaseNow 15 = .ok (.istore_n 3, 1) := by decide +kernel
theorem dX13_releaseNow_16 : decode cX13_releaseNow 16 = .ok (.iload_n 3, 1) := by decide +kernel
theorem dX13_releaseNow_17 : decode cX13_releaseNow 17 = .ok (.aload_n 0, 1) := by decide +kernel
theorem dX13_releaseNow_18 : decode cX13_releaseNow 18 = .ok (.getfield 7, 3) := by decide +kernel
theorem dX13_releaseNow_21 : decode cX13_releaseNow 21 = .ok (.iconst 0, 1) := by decide +kernel
theorem dX13_releaseNow_22 : decode cX13_releaseNow 22 = .ok (.iaload, 1) := by decide +kernel
theorem dX13_releaseNow_23 : decode cX13_releaseNow 23 = .ok (.if_icmp .ge 44, 3) := by decide +kernel
theorem dX13_releaseNow_26 : decode cX13_releaseNow 26 = .ok (.iload_n 2, 1) := by decide +kernel
theorem dX13_releaseNow_27 : decode cX13_releaseNow 27 = .ok (.aload_n 0, 1) := by decide +kernel
theorem dX13_releaseNow_28 : decode cX13_releaseNow 28 = .ok (.getfield 7, 3) := by decide +kernel
theorem dX13_releaseNow_31 : decode cX13_releaseNow 31 = .ok (.iload_n 3, 1) := by decide +kernel
theorem dX13_releaseNow_32 : decode cX13_releaseNow 32 = .ok (.iconst 0, 1) := by decide +kernel
theorem dX13_releaseNow_33 : decode cX13_releaseNow 33 = .ok (.invokestatic 72, 3) := by decide +kernel
theorem dX13_releaseNow_36 : decode cX13_releaseNow 36 = .ok (.iaload, 1) := by decide +kernel
theorem dX13_releaseNow_37 : decode cX13_releaseNow 37 = .ok (.iload_n 1, 1) := by decide +kernel
theorem dX13_releaseNow_38 : decode cX13_releaseNow 38 = .ok (.if_icmp .ne 20, 3) := by decide +kernel
theorem dX13_releaseNow_41 : decode cX13_releaseNow 41 = .ok (.aload_n 0, 1) := by decide +kernel
theorem dX13_releaseNow_42 : decode cX13_releaseNow 42 = .ok (.getfield 7, 3) := by decide +kernel
theorem dX13_releaseNow_45 : decode cX13_releaseNow 45 = .ok (.iload_n 3, 1) := by decide +kernel
theorem dX13_releaseNow_46 : decode cX13_releaseNow 46 = .ok (.iconst 2, 1) := by decide +kernel
theorem dX13_releaseNow_47 : decode cX13_releaseNow 47 = .ok (.invokestatic 72, 3) := by decide +kernel
theorem dX13_releaseNow_50 : decode cX13_releaseNow 50 = .ok (.iaload, 1) := by decide +kernel
theorem dX13_releaseNow_51 : decode cX13_releaseNow 51 = .ok (.ifCond .ne 7, 3) := by decide +kernel
theorem dX13_releaseNow_54 : decode cX13_releaseNow 54 = .ok (.iconst 1, 1) := by decide +kernel
theorem dX13_releaseNow_55 : decode cX13_releaseNow 55 = .ok (.goto 4, 3) := by decide +kernel
theorem dX13_releaseNow_58 : decode cX13_releaseNow 58 = .ok (.iconst 0, 1) := by decide +kernel
theorem dX13_releaseNow_59 : decode cX13_releaseNow 59 = .ok (.iadd, 1) := by decide +kernel
theorem dX13_releaseNow_60 : decode cX13_releaseNow 60 = .ok (.istore_n 2, 1) := by decide +kernel
theorem dX13_releaseNow_61 : decode cX13_releaseNow 61 = .ok (.iinc 3 1, 3) := by decide +kernel
theorem dX13_releaseNow_64 : decode cX13_releaseNow 64 = .ok (.goto (-48), 3) := by decide +kernel
theorem dX13_releaseNow_67 : decode cX13_releaseNow 67 = .ok (.iload_n 2, 1) := by decide +kernel
theorem dX13_releaseNow_68 : decode cX13_releaseNow 68 = .ok (.ireturn, 1) := by decide +kernel
theorem dX13_release_0 : decode cX13_release 0 = .ok (.aload_n 0, 1) := by decide +kernel
theorem dX13_release_1 : decode cX13_release 1 = .ok (.aload_n 0, 1) := by decide +kernel
theorem dX13_release_2 : decode cX13_release 2 = .ok (.iload_n 1, 1) := by decide +kernel
theorem dX13_release_3 : decode cX13_release 3 = .ok (.invokevirtual 150, 3) := by decide +kernel
theorem dX13_release_6 : decode cX13_release 6 = .ok (.putfield 54, 3) := by decide +kernel
theorem dX13_release_9 : decode cX13_release 9 = .ok (.aload_n 0, 1) := by decide +kernel
theorem dX13_release_10 : decode cX13_release 10 = .ok (.getfield 54, 3) := by decide +kernel
theorem dX13_release_13 : decode cX13_release 13 = .ok (.ifCond .le 5, 3) := by decide +kernel
theorem dX13_release_16 : decode cX13_release 16 = .ok (.iconst 0, 1) := by decide +kernel
theorem dX13_release_17 : decode cX13_release 17 = .ok (.ireturn, 1) := by decide +kernel
theorem dX13_release_18 : decode cX13_release 18 = .ok (.aload_n 0, 1) := by decide +kernel
theorem dX13_release_19 : decode cX13_release 19 = .ok (.aload_n 0, 1) := by decide +kernel
theorem dX13_release_20 : decode cX13_release 20 = .ok (.getfield 7, 3) := by decide +kernel
theorem dX13_release_23 : decode cX13_release 23 = .ok (.invokevirtual 111, 3) := by decide +kernel
theorem dX13_release_26 : decode cX13_release 26 = .ok (.aload_n 0, 1) := by decide +kernel
theorem dX13_release_27 : decode cX13_release 27 = .ok (.iload_n 1, 1) := by decide +kernel
theorem dX13_release_28 : decode cX13_release 28 = .ok (.invokevirtual 153, 3) := by decide +kernel
theorem dX13_release_31 : decode cX13_release 31 = .ok (.ireturn, 1) := by decide +kernel
theorem dX13_seedNow_0 : decode cX13_seedNow 0 = .ok (.aload_n 0, 1) := by decide +kernel
theorem dX13_seedNow_1 : decode cX13_seedNow 1 = .ok (.getfield 7, 3) := by decide +kernel
theorem dX13_seedNow_4 : decode cX13_seedNow 4 = .ok (.iconst 3, 1) := by decide +kernel
theorem dX13_seedNow_5 : decode cX13_seedNow 5 = .ok (.iaload, 1) := by decide +kernel
theorem dX13_seedNow_6 : decode cX13_seedNow 6 = .ok (.istore_n 2, 1) := by decide +kernel
theorem dX13_seedNow_7 : decode cX13_seedNow 7 = .ok (.aload_n 0, 1) := by decide +kernel
theorem dX13_seedNow_8 : decode cX13_seedNow 8 = .ok (.getfield 7, 3) := by decide +kernel
theorem dX13_seedNow_11 : decode cX13_seedNow 11 = .ok (.iconst 3, 1) := by decide +kernel
theorem dX13_seedNow_12 : decode cX13_seedNow 12 = .ok (.iload_n 1, 1) := by decide +kernel
theorem dX13_seedNow_13 : decode cX13_seedNow 13 = .ok (.iastore, 1) := by decide +kernel
theorem dX13_seedNow_14 : decode cX13_seedNow 14 = .ok (.iload_n 2, 1) := by decide +kernel
theorem dX13_seedNow_15 : decode cX13_seedNow 15 = .ok (.ireturn, 1) := by decide +kernel
theorem dX13_seed_0 : decode cX13_seed 0 = .ok (.aload_n 0, 1) := by decide +kernel
theorem dX13_seed_1 : decode cX13_seed 1 = .ok (.iload_n 1, 1) := by decide +kernel
theorem dX13_seed_2 : decode cX13_seed 2 = .ok (.ifCond .ge 7, 3) := by decide +kernel
theorem dX13_seed_5 : decode cX13_seed 5 = .ok (.iconst 1, 1) := by decide +kernel
theorem dX13_seed_6 : decode cX13_seed 6 = .ok (.goto 4, 3) := by decide +kernel
theorem dX13_seed_9 : decode cX13_seed 9 = .ok (.iconst 0, 1) := by decide +kernel
theorem dX13_seed_10 : decode cX13_seed 10 = .ok (.putfield 54, 3) := by decide +kernel
theorem dX13_seed_13 : decode cX13_seed 13 = .ok (.aload_n 0, 1) := by decide +kernel
theorem dX13_seed_14 : decode cX13_seed 14 = .ok (.getfield 54, 3) := by decide +kernel
theorem dX13_seed_17 : decode cX13_seed 17 = .ok (.ifCond .le 5, 3) := by decide +kernel
theorem dX13_seed_20 : decode cX13_seed 20 = .ok (.iconst 0, 1) := by decide +kernel
theorem dX13_seed_21 : decode cX13_seed 21 = .ok (.ireturn, 1) := by decide +kernel
theorem dX13_seed_22 : decode cX13_seed 22 = .ok (.aload_n 0, 1) := by decide +kernel
theorem dX13_seed_23 : decode cX13_seed 23 = .ok (.aload_n 0, 1) := by decide +kernel
theorem dX13_seed_24 : decode cX13_seed 24 = .ok (.getfield 7, 3) := by decide +kernel
theorem dX13_seed_27 : decode cX13_seed 27 = .ok (.invokevirtual 111, 3) := by decide +kernel
theorem dX13_seed_30 : decode cX13_seed 30 = .ok (.aload_n 0, 1) := by decide +kernel
theorem dX13_seed_31 : decode cX13_seed 31 = .ok (.iload_n 1, 1) := by decide +kernel
theorem dX13_seed_32 : decode cX13_seed 32 = .ok (.invokevirtual 156, 3) := by decide +kernel
theorem dX13_seed_35 : decode cX13_seed 35 = .ok (.ireturn, 1) := by decide +kernel
theorem dX13_draws_0 : decode cX13_draws 0 = .ok (.aload_n 0, 1) := by decide +kernel
theorem dX13_draws_1 : decode cX13_draws 1 = .ok (.getfield 7, 3) := by decide +kernel
theorem dX13_draws_4 : decode cX13_draws 4 = .ok (.iconst 3, 1) := by decide +kernel
theorem dX13_draws_5 : decode cX13_draws 5 = .ok (.aload_n 0, 1) := by decide +kernel
theorem dX13_draws_6 : decode cX13_draws 6 = .ok (.getfield 7, 3) := by decide +kernel
theorem dX13_draws_9 : decode cX13_draws 9 = .ok (.iconst 3, 1) := by decide +kernel
theorem dX13_draws_10 : decode cX13_draws 10 = .ok (.iaload, 1) := by decide +kernel
theorem dX13_draws_11 : decode cX13_draws 11 = .ok (.ldc 159, 2) := by decide +kernel
theorem dX13_draws_13 : decode cX13_draws 13 = .ok (.imul, 1) := by decide +kernel
theorem dX13_draws_14 : decode cX13_draws 14 = .ok (.sipush 12345, 3) := by decide +kernel
theorem dX13_draws_17 : decode cX13_draws 17 = .ok (.iadd, 1) := by decide +kernel
theorem dX13_draws_18 : decode cX13_draws 18 = .ok (.ldc 160, 2) := by decide +kernel
theorem dX13_draws_20 : decode cX13_draws 20 = .ok (.iand, 1) := by decide +kernel
theorem dX13_draws_21 : decode cX13_draws 21 = .ok (.iastore, 1) := by decide +kernel
theorem dX13_draws_22 : decode cX13_draws 22 = .ok (.aload_n 0, 1) := by decide +kernel
theorem dX13_draws_23 : decode cX13_draws 23 = .ok (.getfield 7, 3) := by decide +kernel
theorem dX13_draws_26 : decode cX13_draws 26 = .ok (.iconst 3, 1) := by decide +kernel
theorem dX13_draws_27 : decode cX13_draws 27 = .ok (.iaload, 1) := by decide +kernel
theorem dX13_draws_28 : decode cX13_draws 28 = .ok (.ldc 161, 2) := by decide +kernel
theorem dX13_draws_30 : decode cX13_draws 30 = .ok (.idiv, 1) := by decide +kernel
theorem dX13_draws_31 : decode cX13_draws 31 = .ok (.iload_n 1, 1) := by decide +kernel
theorem dX13_draws_32 : decode cX13_draws 32 = .ok (.irem, 1) := by decide +kernel
theorem dX13_draws_33 : decode cX13_draws 33 = .ok (.ireturn, 1) := by decide +kernel
theorem dX13_begins_0 : decode cX13_begins 0 = .ok (.aload_n 0, 1) := by decide +kernel
theorem dX13_begins_1 : decode cX13_begins 1 = .ok (.getfield 7, 3) := by decide +kernel
theorem dX13_begins_4 : decode cX13_begins 4 = .ok (.iconst 0, 1) := by decide +kernel
theorem dX13_begins_5 : decode cX13_begins 5 = .ok (.iaload, 1) := by decide +kernel
theorem dX13_begins_6 : decode cX13_begins 6 = .ok (.istore 5, 2) := by decide +kernel
theorem dX13_begins_8 : decode cX13_begins 8 = .ok (.aload_n 0, 1) := by decide +kernel
theorem dX13_begins_9 : decode cX13_begins 9 = .ok (.getfield 7, 3) := by decide +kernel
theorem dX13_begins_12 : decode cX13_begins 12 = .ok (.iconst 0, 1) := by decide +kernel
theorem dX13_begins_13 : decode cX13_begins 13 = .ok (.dup2, 1) := by decide +kernel
theorem dX13_begins_14 : decode cX13_begins 14 = .ok (.iaload, 1) := by decide +kernel
theorem dX13_begins_15 : decode cX13_begins 15 = .ok (.iconst 1, 1) := by decide +kernel
theorem dX13_begins_16 : decode cX13_begins 16 = .ok (.iadd, 1) := by decide +kernel
theorem dX13_begins_17 : decode cX13_begins 17 = .ok (.iastore, 1) := by decide +kernel
theorem dX13_begins_18 : decode cX13_begins 18 = .ok (.iconst 0, 1) := by decide +kernel
theorem dX13_begins_19 : decode cX13_begins 19 = .ok (.istore 6, 2) := by decide +kernel
theorem dX13_begins_21 : decode cX13_begins 21 = .ok (.iload 6, 2) := by decide +kernel
theorem dX13_begins_23 : decode cX13_begins 23 = .ok (.bipush 13, 2) := by decide +kernel
theorem dX13_begins_25 : decode cX13_begins 25 = .ok (.if_icmp .ge 39, 3) := by decide +kernel
theorem dX13_begins_28 : decode cX13_begins 28 = .ok (.aload_n 0, 1) := by decide +kernel
theorem dX13_begins_29 : decode cX13_begins 29 = .ok (.getfield 7, 3) := by decide +kernel
theorem dX13_begins_32 : decode cX13_begins 32 = .ok (.iload 5, 2) := by decide +kernel
theorem dX13_begins_34 : decode cX13_begins 34 = .ok (.iload 6, 2) := by decide +kernel
theorem dX13_begins_36 : decode cX13_begins 36 = .ok (.invokestatic 72, 3) := by decide +kernel
theorem dX13_begins_39 : decode cX13_begins 39 = .ok (.iload 6, 2) := by decide +kernel
theorem dX13_begins_41 : decode cX13_begins 41 = .ok (.iconst 4, 1) := by decide +kernel
theorem dX13_begins_42 : decode cX13_begins 42 = .ok (.if_icmp .lt 14, 3) := by decide +kernel
theorem dX13_begins_45 : decode cX13_begins 45 = .ok (.iload 6, 2) := by decide +kernel
theorem dX13_begins_47 : decode cX13_begins 47 = .ok (.bipush 8, 2) := by decide +kernel
theorem dX13_begins_49 : decode cX13_begins 49 = .ok (.if_icmp .ge 7, 3) := by decide +kernel
theorem dX13_begins_52 : decode cX13_begins 52 = .ok (.iconst (-1), 1) := by decide +kernel
theorem dX13_begins_53 : decode cX13_begins 53 = .ok (.goto 4, 3) := by decide +kernel
theorem dX13_begins_56 : decode cX13_begins 56 = .ok (.iconst 0, 1) := by decide +kernel
theorem dX13_begins_57 : decode cX13_begins 57 = .ok (.iastore, 1) := by decide +kernel
theorem dX13_begins_58 : decode cX13_begins 58 = .ok (.iinc 6 1, 3) := by decide +kernel
theorem dX13_begins_61 : decode cX13_begins 61 = .ok (.goto (-40), 3) := by decide +kernel
theorem dX13_begins_64 : decode cX13_begins 64 = .ok (.aload_n 0, 1) := by decide +kernel
theorem dX13_begins_65 : decode cX13_begins 65 = .ok (.getfield 7, 3) := by decide +kernel
theorem dX13_begins_68 : decode cX13_begins 68 = .ok (.iload 5, 2) := by decide +kernel
theorem dX13_begins_70 : decode cX13_begins 70 = .ok (.iconst 0, 1) := by decide +kernel
theorem dX13_begins_71 : decode cX13_begins 71 = .ok (.invokestatic 72, 3) := by decide +kernel
theorem dX13_begins_74 : decode cX13_begins 74 = .ok (.iload_n 2, 1) := by decide +kernel
theorem dX13_begins_75 : decode cX13_begins 75 = .ok (.iastore, 1) := by decide +kernel
theorem dX13_begins_76 : decode cX13_begins 76 = .ok (.aload_n 0, 1) := by decide +kernel
theorem dX13_begins_77 : decode cX13_begins 77 = .ok (.getfield 7, 3) := by decide +kernel
theorem dX13_begins_80 : decode cX13_begins 80 = .ok (.iload 5, 2) := by decide +kernel
theorem dX13_begins_82 : decode cX13_begins 82 = .ok (.iconst 1, 1) := by decide +kernel
theorem dX13_begins_83 : decode cX13_begins 83 = .ok (.invokestatic 72, 3) := by decide +kernel
theorem dX13_begins_86 : decode cX13_begins 86 = .ok (.iload_n 3, 1) := by decide +kernel
theorem dX13_begins_87 : decode cX13_begins 87 = .ok (.iastore, 1) := by decide +kernel
theorem dX13_begins_88 : decode cX13_begins 88 = .ok (.aload_n 0, 1) := by decide +kernel
theorem dX13_begins_89 : decode cX13_begins 89 = .ok (.getfield 7, 3) := by decide +kernel
theorem dX13_begins_92 : decode cX13_begins 92 = .ok (.iload 5, 2) := by decide +kernel
theorem dX13_begins_94 : decode cX13_begins 94 = .ok (.bipush 8, 2) := by decide +kernel
theorem dX13_begins_96 : decode cX13_begins 96 = .ok (.invokestatic 72, 3) := by decide +kernel
theorem dX13_begins_99 : decode cX13_begins 99 = .ok (.iload 4, 2) := by decide +kernel
theorem dX13_begins_101 : decode cX13_begins 101 = .ok (.iastore, 1) := by decide +kernel
theorem dX13_begins_102 : decode cX13_begins 102 = .ok (.aload_n 0, 1) := by decide +kernel
theorem dX13_begins_103 : decode cX13_begins 103 = .ok (.getfield 7, 3) := by decide +kernel
theorem dX13_begins_106 : decode cX13_begins 106 = .ok (.iload 5, 2) := by decide +kernel
theorem dX13_begins_108 : decode cX13_begins 108 = .ok (.bipush 9, 2) := by decide +kernel
theorem dX13_begins_110 : decode cX13_begins 110 = .ok (.invokestatic 72, 3) := by decide +kernel
theorem dX13_begins_113 : decode cX13_begins 113 = .ok (.iload_n 1, 1) := by decide +kernel
theorem dX13_begins_114 : decode cX13_begins 114 = .ok (.iastore, 1) := by decide +kernel
theorem dX13_begins_115 : decode cX13_begins 115 = .ok (.iconst 0, 1) := by decide +kernel
theorem dX13_begins_116 : decode cX13_begins 116 = .ok (.istore 6, 2) := by decide +kernel
theorem dX13_begins_118 : decode cX13_begins 118 = .ok (.iload 6, 2) := by decide +kernel
theorem dX13_begins_120 : decode cX13_begins 120 = .ok (.iload_n 3, 1) := by decide +kernel
theorem dX13_begins_121 : decode cX13_begins 121 = .ok (.if_icmp .ge 37, 3) := by decide +kernel
theorem dX13_begins_124 : decode cX13_begins 124 = .ok (.aload_n 0, 1) := by decide +kernel
theorem dX13_begins_125 : decode cX13_begins 125 = .ok (.getfield 7, 3) := by decide +kernel
theorem dX13_begins_128 : decode cX13_begins 128 = .ok (.iload 5, 2) := by decide +kernel
theorem dX13_begins_130 : decode cX13_begins 130 = .ok (.iload 6, 2) := by decide +kernel
theorem dX13_begins_132 : decode cX13_begins 132 = .ok (.invokestatic 84, 3) := by decide +kernel
theorem dX13_begins_135 : decode cX13_begins 135 = .ok (.iconst 0, 1) := by decide +kernel
theorem dX13_begins_136 : decode cX13_begins 136 = .ok (.iastore, 1) := by decide +kernel
theorem dX13_begins_137 : decode cX13_begins 137 = .ok (.aload_n 0, 1) := by decide +kernel
theorem dX13_begins_138 : decode cX13_begins 138 = .ok (.getfield 7, 3) := by decide +kernel
theorem dX13_begins_141 : decode cX13_begins 141 = .ok (.iload 5, 2) := by decide +kernel
theorem dX13_begins_143 : decode cX13_begins 143 = .ok (.iload 6, 2) := by decide +kernel
theorem dX13_begins_145 : decode cX13_begins 145 = .ok (.invokestatic 84, 3) := by decide +kernel
theorem dX13_begins_148 : decode cX13_begins 148 = .ok (.iconst 1, 1) := by decide +kernel
theorem dX13_begins_149 : decode cX13_begins 149 = .ok (.iadd, 1) := by decide +kernel
theorem dX13_begins_150 : decode cX13_begins 150 = .ok (.iconst 0, 1) := by decide +kernel
theorem dX13_begins_151 : decode cX13_begins 151 = .ok (.iastore, 1) := by decide +kernel
theorem dX13_begins_152 : decode cX13_begins 152 = .ok (.iinc 6 1, 3) := by decide +kernel
theorem dX13_begins_155 : decode cX13_begins 155 = .ok (.goto (-37), 3) := by decide +kernel
theorem dX13_begins_158 : decode cX13_begins 158 = .ok (.iload 5, 2) := by decide +kernel
theorem dX13_begins_160 : decode cX13_begins 160 = .ok (.ireturn, 1) := by decide +kernel
theorem dX13_againstRaw_0 : decode cX13_againstRaw 0 = .ok (.iload_n 1, 1) := by decide +kernel
theorem dX13_againstRaw_1 : decode cX13_againstRaw 1 = .ok (.invokestatic 104, 3) := by decide +kernel
theorem dX13_againstRaw_4 : decode cX13_againstRaw 4 = .ok (.ifCond .eq 10, 3) := by decide +kernel
theorem dX13_againstRaw_7 : decode cX13_againstRaw 7 = .ok (.iload_n 2, 1) := by decide +kernel
theorem dX13_againstRaw_8 : decode cX13_againstRaw 8 = .ok (.invokestatic 118, 3) := by decide +kernel
theorem dX13_againstRaw_11 : decode cX13_againstRaw 11 = .ok (.ifCond .ne 7, 3) := by decide +kernel
theorem dX13_againstRaw_14 : decode cX13_againstRaw 14 = .ok (.iconst 1, 1) := by decide +kernel
theorem dX13_againstRaw_15 : decode cX13_againstRaw 15 = .ok (.goto 34, 3) := by decide +kernel
theorem dX13_againstRaw_18 : decode cX13_againstRaw 18 = .ok (.iload_n 3, 1) := by decide +kernel
theorem dX13_againstRaw_19 : decode cX13_againstRaw 19 = .ok (.iconst 1, 1) := by decide +kernel
theorem dX13_againstRaw_20 : decode cX13_againstRaw 20 = .ok (.sipush 200, 3) := by decide +kernel
theorem dX13_againstRaw_23 : decode cX13_againstRaw 23 = .ok (.invokestatic 68, 3) := by decide +kernel
theorem dX13_againstRaw_26 : decode cX13_againstRaw 26 = .ok (.ifCond .ne 7, 3) := by decide +kernel
theorem dX13_againstRaw_29 : decode cX13_againstRaw 29 = .ok (.iconst 2, 1) := by decide +kernel
theorem dX13_againstRaw_30 : decode cX13_againstRaw 30 = .ok (.goto 19, 3) := by decide +kernel
theorem dX13_againstRaw_33 : decode cX13_againstRaw 33 = .ok (.aload_n 0, 1) := by decide +kernel
theorem dX13_againstRaw_34 : decode cX13_againstRaw 34 = .ok (.getfield 7, 3) := by decide +kernel
theorem dX13_againstRaw_37 : decode cX13_againstRaw 37 = .ok (.iconst 0, 1) := by decide +kernel
theorem dX13_againstRaw_38 : decode cX13_againstRaw 38 = .ok (.iaload, 1) := by decide +kernel
theorem dX13_againstRaw_39 : decode cX13_againstRaw 39 = .ok (.bipush 24, 2) := by decide +kernel
theorem dX13_againstRaw_41 : decode cX13_againstRaw 41 = .ok (.if_icmp .ne 7, 3) := by decide +kernel
theorem dX13_againstRaw_44 : decode cX13_againstRaw 44 = .ok (.iconst 3, 1) := by decide +kernel
theorem dX13_againstRaw_45 : decode cX13_againstRaw 45 = .ok (.goto 4, 3) := by decide +kernel
theorem dX13_againstRaw_48 : decode cX13_againstRaw 48 = .ok (.iconst 0, 1) := by decide +kernel
theorem dX13_againstRaw_49 : decode cX13_againstRaw 49 = .ok (.ireturn, 1) := by decide +kernel
theorem dX13_rawNow_0 : decode cX13_rawNow 0 = .ok (.aload_n 0, 1) := by decide +kernel
theorem dX13_rawNow_1 : decode cX13_rawNow 1 = .ok (.iload_n 1, 1) := by decide +kernel
theorem dX13_rawNow_2 : decode cX13_rawNow 2 = .ok (.iload_n 2, 1) := by decide +kernel
theorem dX13_rawNow_3 : decode cX13_rawNow 3 = .ok (.iload_n 3, 1) := by decide +kernel
theorem dX13_rawNow_4 : decode cX13_rawNow 4 = .ok (.iconst 0, 1) := by decide +kernel
theorem dX13_rawNow_5 : decode cX13_rawNow 5 = .ok (.invokevirtual 162, 3) := by decide +kernel
theorem dX13_rawNow_8 : decode cX13_rawNow 8 = .ok (.istore 4, 2) := by decide +kernel
theorem dX13_rawNow_10 : decode cX13_rawNow 10 = .ok (.iconst 0, 1) := by decide +kernel
theorem dX13_rawNow_11 : decode cX13_rawNow 11 = .ok (.istore 5, 2) := by decide +kernel
theorem dX13_rawNow_13 : decode cX13_rawNow 13 = .ok (.iload 5, 2) := by decide +kernel
theorem dX13_rawNow_15 : decode cX13_rawNow 15 = .ok (.iload_n 3, 1) := by decide +kernel
theorem dX13_rawNow_16 : decode cX13_rawNow 16 = .ok (.if_icmp .ge 18, 3) := by decide +kernel
theorem dX13_rawNow_19 : decode cX13_rawNow 19 = .ok (.aload_n 0, 1) := by decide +kernel
theorem dX13_rawNow_20 : decode cX13_rawNow 20 = .ok (.iload_n 1, 1) := by decide +kernel
theorem dX13_rawNow_21 : decode cX13_rawNow 21 = .ok (.iload 4, 2) := by decide +kernel
theorem dX13_rawNow_23 : decode cX13_rawNow 23 = .ok (.iload 5, 2) := by decide +kernel
theorem dX13_rawNow_25 : decode cX13_rawNow 25 = .ok (.invokevirtual 165, 3) := by decide +kernel
theorem dX13_rawNow_28 : decode cX13_rawNow 28 = .ok (.iinc 5 1, 3) := by decide +kernel
theorem dX13_rawNow_31 : decode cX13_rawNow 31 = .ok (.goto (-18), 3) := by decide +kernel
theorem dX13_rawNow_34 : decode cX13_rawNow 34 = .ok (.iload 4, 2) := by decide +kernel
theorem dX13_rawNow_36 : decode cX13_rawNow 36 = .ok (.ireturn, 1) := by decide +kernel
theorem dX13_raw_0 : decode cX13_raw 0 = .ok (.aload_n 0, 1) := by decide +kernel
theorem dX13_raw_1 : decode cX13_raw 1 = .ok (.aload_n 0, 1) := by decide +kernel
theorem dX13_raw_2 : decode cX13_raw 2 = .ok (.iload_n 1, 1) := by decide +kernel
theorem dX13_raw_3 : decode cX13_raw 3 = .ok (.iload_n 2, 1) := by decide +kernel
theorem dX13_raw_4 : decode cX13_raw 4 = .ok (.iload_n 3, 1) := by decide +kernel
theorem dX13_raw_5 : decode cX13_raw 5 = .ok (.invokevirtual 169, 3) := by decide +kernel
theorem dX13_raw_8 : decode cX13_raw 8 = .ok (.putfield 54, 3) := by decide +kernel
theorem dX13_raw_11 : decode cX13_raw 11 = .ok (.aload_n 0, 1) := by decide +kernel
theorem dX13_raw_12 : decode cX13_raw 12 = .ok (.getfield 54, 3) := by decide +kernel
theorem dX13_raw_15 : decode cX13_raw 15 = .ok (.ifCond .le 5, 3) := by decide +kernel
theorem dX13_raw_18 : decode cX13_raw 18 = .ok (.iconst 0, 1) := by decide +kernel
theorem dX13_raw_19 : decode cX13_raw 19 = .ok (.ireturn, 1) := by decide +kernel
theorem dX13_raw_20 : decode cX13_raw 20 = .ok (.aload_n 0, 1) := by decide +kernel
theorem dX13_raw_21 : decode cX13_raw 21 = .ok (.aload_n 0, 1) := by decide +kernel
theorem dX13_raw_22 : decode cX13_raw 22 = .ok (.getfield 7, 3) := by decide +kernel
theorem dX13_raw_25 : decode cX13_raw 25 = .ok (.invokevirtual 111, 3) := by decide +kernel
theorem dX13_raw_28 : decode cX13_raw 28 = .ok (.aload_n 0, 1) := by decide +kernel
theorem dX13_raw_29 : decode cX13_raw 29 = .ok (.iload_n 1, 1) := by decide +kernel
theorem dX13_raw_30 : decode cX13_raw 30 = .ok (.iload_n 2, 1) := by decide +kernel
theorem dX13_raw_31 : decode cX13_raw 31 = .ok (.iload_n 3, 1) := by decide +kernel
theorem dX13_raw_32 : decode cX13_raw 32 = .ok (.invokevirtual 172, 3) := by decide +kernel
theorem dX13_raw_35 : decode cX13_raw 35 = .ok (.ireturn, 1) := by decide +kernel
theorem dX13_maybePart_0 : decode cX13_maybePart 0 = .ok (.iload_n 1, 1) := by decide +kernel
theorem dX13_maybePart_1 : decode cX13_maybePart 1 = .ok (.iconst (-1), 1) := by decide +kernel
theorem dX13_maybePart_2 : decode cX13_maybePart 2 = .ok (.if_icmp .eq 11, 3) := by decide +kernel
theorem dX13_maybePart_5 : decode cX13_maybePart 5 = .ok (.aload_n 0, 1) := by decide +kernel
theorem dX13_maybePart_6 : decode cX13_maybePart 6 = .ok (.iload_n 1, 1) := by decide +kernel
theorem dX13_maybePart_7 : decode cX13_maybePart 7 = .ok (.invokevirtual 76, 3) := by decide +kernel
theorem dX13_maybePart_10 : decode cX13_maybePart 10 = .ok (.ifCond .eq 7, 3) := by decide +kernel
theorem dX13_maybePart_13 : decode cX13_maybePart 13 = .ok (.iconst 1, 1) := by decide +kernel
theorem dX13_maybePart_14 : decode cX13_maybePart 14 = .ok (.goto 4, 3) := by decide +kernel
theorem dX13_maybePart_17 : decode cX13_maybePart 17 = .ok (.iconst 0, 1) := by decide +kernel
theorem dX13_maybePart_18 : decode cX13_maybePart 18 = .ok (.ireturn, 1) := by decide +kernel
theorem dX13_hasFew_0 : decode cX13_hasFew 0 = .ok (.iload_n 1, 1) := by decide +kernel
theorem dX13_hasFew_1 : decode cX13_hasFew 1 = .ok (.ifCond .lt 31, 3) := by decide +kernel
theorem dX13_hasFew_4 : decode cX13_hasFew 4 = .ok (.aload_n 0, 1) := by decide +kernel
theorem dX13_hasFew_5 : decode cX13_hasFew 5 = .ok (.getfield 7, 3) := by decide +kernel
theorem dX13_hasFew_8 : decode cX13_hasFew 8 = .ok (.iload_n 1, 1) := by decide +kernel
theorem dX13_hasFew_9 : decode cX13_hasFew 9 = .ok (.iconst 2, 1) := by decide +kernel
theorem dX13_hasFew_10 : decode cX13_hasFew 10 = .ok (.invokestatic 72, 3) := by decide +kernel
theorem dX13_hasFew_13 : decode cX13_hasFew 13 = .ok (.iaload, 1) := by decide +kernel
theorem dX13_hasFew_14 : decode cX13_hasFew 14 = .ok (.iconst 1, 1) := by decide +kernel
theorem dX13_hasFew_15 : decode cX13_hasFew 15 = .ok (.if_icmp .ne 13, 3) := by decide +kernel
theorem dX13_hasFew_18 : decode cX13_hasFew 18 = .ok (.aload_n 0, 1) := by decide +kernel
theorem dX13_hasFew_19 : decode cX13_hasFew 19 = .ok (.iload_n 1, 1) := by decide +kernel
theorem dX13_hasFew_20 : decode cX13_hasFew 20 = .ok (.iconst 0, 1) := by decide +kernel
theorem dX13_hasFew_21 : decode cX13_hasFew 21 = .ok (.invokevirtual 175, 3) := by decide +kernel
theorem dX13_hasFew_24 : decode cX13_hasFew 24 = .ok (.iload_n 2, 1) := by decide +kernel
theorem dX13_hasFew_25 : decode cX13_hasFew 25 = .ok (.if_icmp .ge 7, 3) := by decide +kernel
theorem dX13_hasFew_28 : decode cX13_hasFew 28 = .ok (.iconst 1, 1) := by decide +kernel
theorem dX13_hasFew_29 : decode cX13_hasFew 29 = .ok (.goto 4, 3) := by decide +kernel
theorem dX13_hasFew_32 : decode cX13_hasFew 32 = .ok (.iconst 0, 1) := by decide +kernel
theorem dX13_hasFew_33 : decode cX13_hasFew 33 = .ok (.ireturn, 1) := by decide +kernel
theorem dX13_againstMake_0 : decode cX13_againstMake 0 = .ok (.iload_n 1, 1) := by decide +kernel
theorem dX13_againstMake_1 : decode cX13_againstMake 1 = .ok (.invokestatic 104, 3) := by decide +kernel
theorem dX13_againstMake_4 : decode cX13_againstMake 4 = .ok (.ifCond .eq 37, 3) := by decide +kernel
theorem dX13_againstMake_7 : decode cX13_againstMake 7 = .ok (.iload_n 2, 1) := by decide +kernel
theorem dX13_againstMake_8 : decode cX13_againstMake 8 = .ok (.invokestatic 118, 3) := by decide +kernel
theorem dX13_againstMake_11 : decode cX13_againstMake 11 = .ok (.ifCond .eq 30, 3) := by decide +kernel
theorem dX13_againstMake_14 : decode cX13_againstMake 14 = .ok (.aload_n 0, 1) := by decide +kernel
theorem dX13_againstMake_15 : decode cX13_againstMake 15 = .ok (.iload 4, 2) := by decide +kernel
theorem dX13_againstMake_17 : decode cX13_againstMake 17 = .ok (.invokevirtual 76, 3) := by decide +kernel
theorem dX13_againstMake_20 : decode cX13_againstMake 20 = .ok (.ifCond .eq 21, 3) := by decide +kernel
theorem dX13_againstMake_23 : decode cX13_againstMake 23 = .ok (.aload_n 0, 1) := by decide +kernel
theorem dX13_againstMake_24 : decode cX13_againstMake 24 = .ok (.iload 5, 2) := by decide +kernel
theorem dX13_againstMake_26 : decode cX13_againstMake 26 = .ok (.invokevirtual 178, 3) := by decide +kernel
theorem dX13_againstMake_29 : decode cX13_againstMake 29 = .ok (.ifCond .eq 12, 3) := by decide +kernel
theorem dX13_againstMake_32 : decode cX13_againstMake 32 = .ok (.aload_n 0, 1) := by decide +kernel
theorem dX13_againstMake_33 : decode cX13_againstMake 33 = .ok (.iload 6, 2) := by decide +kernel
theorem dX13_againstMake_35 : decode cX13_againstMake 35 = .ok (.invokevirtual 178, 3) := by decide +kernel
theorem dX13_againstMake_38 : decode cX13_againstMake 38 = .ok (.ifCond .ne 5, 3) := by decide +kernel
theorem dX13_againstMake_41 : decode cX13_againstMake 41 = .ok (.iconst 1, 1) := by decide +kernel
theorem dX13_againstMake_42 : decode cX13_againstMake 42 = .ok (.ireturn, 1) := by decide +kernel
theorem dX13_againstMake_43 : decode cX13_againstMake 43 = .ok (.iload_n 3, 1) := by decide +kernel
theorem dX13_againstMake_44 : decode cX13_againstMake 44 = .ok (.iconst 1, 1) := by decide +kernel
theorem dX13_againstMake_45 : decode cX13_againstMake 45 = .ok (.sipush 200, 3) := by decide +kernel
theorem dX13_againstMake_48 : decode cX13_againstMake 48 = .ok (.invokestatic 68, 3) := by decide +kernel
theorem dX13_againstMake_51 : decode cX13_againstMake 51 = .ok (.ifCond .eq 39, 3) := by decide +kernel
theorem dX13_againstMake_54 : decode cX13_againstMake 54 = .ok (.iload 4, 2) := by decide +kernel
theorem dX13_againstMake_56 : decode cX13_againstMake 56 = .ok (.iload 5, 2) := by decide +kernel
theorem dX13_againstMake_58 : decode cX13_againstMake 58 = .ok (.if_icmp .eq 32, 3) := by decide +kernel
theorem dX13_againstMake_61 : decode cX13_againstMake 61 = .ok (.iload 4, 2) := by decide +kernel
theorem dX13_againstMake_63 : decode cX13_againstMake 63 = .ok (.iload 6, 2) := by decide +kernel
theorem dX13_againstMake_65 : decode cX13_againstMake 65 = .ok (.if_icmp .eq 25, 3) := by decide +kernel
theorem dX13_againstMake_68 : decode cX13_againstMake 68 = .ok (.iload 5, 2) := by decide +kernel
theorem dX13_againstMake_70 : decode cX13_againstMake 70 = .ok (.iload 6, 2) := by decide +kernel
theorem dX13_againstMake_72 : decode cX13_againstMake 72 = .ok (.if_icmp .ne 8, 3) := by decide +kernel
theorem dX13_againstMake_75 : decode cX13_againstMake 75 = .ok (.iload 5, 2) := by decide +kernel
theorem dX13_againstMake_77 : decode cX13_againstMake 77 = .ok (.ifCond .ge 13, 3) := by decide +kernel
theorem dX13_againstMake_80 : decode cX13_againstMake 80 = .ok (.iload 5, 2) := by decide +kernel
theorem dX13_againstMake_82 : decode cX13_againstMake 82 = .ok (.ifCond .ge 10, 3) := by decide +kernel
theorem dX13_againstMake_85 : decode cX13_againstMake 85 = .ok (.iload 6, 2) := by decide +kernel
theorem dX13_againstMake_87 : decode cX13_againstMake 87 = .ok (.ifCond .lt 5, 3) := by decide +kernel
theorem dX13_againstMake_90 : decode cX13_againstMake 90 = .ok (.iconst 2, 1) := by decide +kernel
theorem dX13_againstMake_91 : decode cX13_againstMake 91 = .ok (.ireturn, 1) := by decide +kernel
theorem dX13_againstMake_92 : decode cX13_againstMake 92 = .ok (.aload_n 0, 1) := by decide +kernel
theorem dX13_againstMake_93 : decode cX13_againstMake 93 = .ok (.getfield 7, 3) := by decide +kernel
theorem dX13_againstMake_96 : decode cX13_againstMake 96 = .ok (.iconst 0, 1) := by decide +kernel
theorem dX13_againstMake_97 : decode cX13_againstMake 97 = .ok (.iaload, 1) := by decide +kernel
theorem dX13_againstMake_98 : decode cX13_againstMake 98 = .ok (.bipush 24, 2) := by decide +kernel
theorem dX13_againstMake_100 : decode cX13_againstMake 100 = .ok (.if_icmp .eq 33, 3) := by decide +kernel
theorem dX13_againstMake_103 : decode cX13_againstMake 103 = .ok (.aload_n 0, 1) := by decide +kernel
theorem dX13_againstMake_104 : decode cX13_againstMake 104 = .ok (.iload 4, 2) := by decide +kernel
theorem dX13_againstMake_106 : decode cX13_againstMake 106 = .ok (.iload_n 3, 1) := by decide +kernel
theorem dX13_againstMake_107 : decode cX13_againstMake 107 = .ok (.invokevirtual 181, 3) := by decide +kernel
theorem dX13_againstMake_110 : decode cX13_againstMake 110 = .ok (.ifCond .ne 23, 3) := by decide +kernel
theorem dX13_againstMake_113 : decode cX13_againstMake 113 = .ok (.aload_n 0, 1) := by decide +kernel
theorem dX13_againstMake_114 : decode cX13_againstMake 114 = .ok (.iload 5, 2) := by decide +kernel
theorem dX13_againstMake_116 : decode cX13_againstMake 116 = .ok (.iload_n 3, 1) := by decide +kernel
theorem dX13_againstMake_117 : decode cX13_againstMake 117 = .ok (.invokevirtual 181, 3) := by decide +kernel
theorem dX13_againstMake_120 : decode cX13_againstMake 120 = .ok (.ifCond .ne 13, 3) := by decide +kernel
theorem dX13_againstMake_123 : decode cX13_againstMake 123 = .ok (.aload_n 0, 1) := by decide +kernel
theorem dX13_againstMake_124 : decode cX13_againstMake 124 = .ok (.iload 6, 2) := by decide +kernel
theorem dX13_againstMake_126 : decode cX13_againstMake 126 = .ok (.iload_n 3, 1) := by decide +kernel
theorem dX13_againstMake_127 : decode cX13_againstMake 127 = .ok (.invokevirtual 181, 3) := by decide +kernel
theorem dX13_againstMake_130 : decode cX13_againstMake 130 = .ok (.ifCond .eq 7, 3) := by decide +kernel
theorem dX13_againstMake_133 : decode cX13_againstMake 133 = .ok (.iconst 3, 1) := by decide +kernel
theorem dX13_againstMake_134 : decode cX13_againstMake 134 = .ok (.goto 4, 3) := by decide +kernel
theorem dX13_againstMake_137 : decode cX13_againstMake 137 = .ok (.iconst 0, 1) := by decide +kernel
theorem dX13_againstMake_138 : decode cX13_againstMake 138 = .ok (.ireturn, 1) := by decide +kernel
theorem dX13_nextHere_0 : decode cX13_nextHere 0 = .ok (.iload_n 2, 1) := by decide +kernel
theorem dX13_nextHere_1 : decode cX13_nextHere 1 = .ok (.istore_n 3, 1) := by decide +kernel
theorem dX13_nextHere_2 : decode cX13_nextHere 2 = .ok (.aload_n 0, 1) := by decide +kernel
theorem dX13_nextHere_3 : decode cX13_nextHere 3 = .ok (.iload_n 1, 1) := by decide +kernel
theorem dX13_nextHere_4 : decode cX13_nextHere 4 = .ok (.iload_n 3, 1) := by decide +kernel
theorem dX13_nextHere_5 : decode cX13_nextHere 5 = .ok (.invokevirtual 93, 3) := by decide +kernel
theorem dX13_nextHere_8 : decode cX13_nextHere 8 = .ok (.ifCond .eq 9, 3) := by decide +kernel
theorem dX13_nextHere_11 : decode cX13_nextHere 11 = .ok (.iinc 3 1, 3) := by decide +kernel
theorem dX13_nextHere_14 : decode cX13_nextHere 14 = .ok (.goto (-12), 3) := by decide +kernel
theorem dX13_nextHere_17 : decode cX13_nextHere 17 = .ok (.iload_n 3, 1) := by decide +kernel
theorem dX13_nextHere_18 : decode cX13_nextHere 18 = .ok (.ireturn, 1) := by decide +kernel
theorem dX13_takes_0 : decode cX13_takes 0 = .ok (.aload_n 0, 1) := by decide +kernel
theorem dX13_takes_1 : decode cX13_takes 1 = .ok (.getfield 7, 3) := by decide +kernel
theorem dX13_takes_4 : decode cX13_takes 4 = .ok (.iload_n 1, 1) := by decide +kernel
theorem dX13_takes_5 : decode cX13_takes 5 = .ok (.bipush 10, 2) := by decide +kernel
theorem dX13_takes_7 : decode cX13_takes 7 = .ok (.iload_n 2, 1) := by decide +kernel
theorem dX13_takes_8 : decode cX13_takes 8 = .ok (.iadd, 1) := by decide +kernel
theorem dX13_takes_9 : decode cX13_takes 9 = .ok (.invokestatic 72, 3) := by decide +kernel
theorem dX13_takes_12 : decode cX13_takes 12 = .ok (.iload_n 3, 1) := by decide +kernel
theorem dX13_takes_13 : decode cX13_takes 13 = .ok (.iastore, 1) := by decide +kernel
theorem dX13_takes_14 : decode cX13_takes 14 = .ok (.iconst 0, 1) := by decide +kernel
theorem dX13_takes_15 : decode cX13_takes 15 = .ok (.istore 4, 2) := by decide +kernel
theorem dX13_takes_17 : decode cX13_takes 17 = .ok (.iconst 0, 1) := by decide +kernel
theorem dX13_takes_18 : decode cX13_takes 18 = .ok (.istore 5, 2) := by decide +kernel
theorem dX13_takes_20 : decode cX13_takes 20 = .ok (.iload 5, 2) := by decide +kernel
theorem dX13_takes_22 : decode cX13_takes 22 = .ok (.aload_n 0, 1) := by decide +kernel
theorem dX13_takes_23 : decode cX13_takes 23 = .ok (.iload_n 1, 1) := by decide +kernel
theorem dX13_takes_24 : decode cX13_takes 24 = .ok (.invokevirtual 80, 3) := by decide +kernel
theorem dX13_takes_27 : decode cX13_takes 27 = .ok (.if_icmp .ge 76, 3) := by decide +kernel
theorem dX13_takes_30 : decode cX13_takes 30 = .ok (.aload_n 0, 1) := by decide +kernel
theorem dX13_takes_31 : decode cX13_takes 31 = .ok (.iload_n 3, 1) := by decide +kernel
theorem dX13_takes_32 : decode cX13_takes 32 = .ok (.iload 4, 2) := by decide +kernel
theorem dX13_takes_34 : decode cX13_takes 34 = .ok (.invokevirtual 184, 3) := by decide +kernel
theorem dX13_takes_37 : decode cX13_takes 37 = .ok (.istore 6, 2) := by decide +kernel
theorem dX13_takes_39 : decode cX13_takes 39 = .ok (.aload_n 0, 1) := by decide +kernel
theorem dX13_takes_40 : decode cX13_takes 40 = .ok (.iload_n 3, 1) := by decide +kernel
theorem dX13_takes_41 : decode cX13_takes 41 = .ok (.iload 6, 2) := by decide +kernel
theorem dX13_takes_43 : decode cX13_takes 43 = .ok (.iconst 3, 1) := by decide +kernel
theorem dX13_takes_44 : decode cX13_takes 44 = .ok (.invokevirtual 187, 3) := by decide +kernel
theorem dX13_takes_47 : decode cX13_takes 47 = .ok (.aload_n 0, 1) := by decide +kernel
theorem dX13_takes_48 : decode cX13_takes 48 = .ok (.getfield 7, 3) := by decide +kernel
theorem dX13_takes_51 : decode cX13_takes 51 = .ok (.iload_n 1, 1) := by decide +kernel
theorem dX13_takes_52 : decode cX13_takes 52 = .ok (.iload 5, 2) := by decide +kernel
theorem dX13_takes_54 : decode cX13_takes 54 = .ok (.invokestatic 84, 3) := by decide +kernel
theorem dX13_takes_57 : decode cX13_takes 57 = .ok (.iconst 1, 1) := by decide +kernel
theorem dX13_takes_58 : decode cX13_takes 58 = .ok (.iadd, 1) := by decide +kernel
theorem dX13_takes_59 : decode cX13_takes 59 = .ok (.dup2, 1) := by decide +kernel
theorem dX13_takes_60 : decode cX13_takes 60 = .ok (.iaload, 1) := by decide +kernel
theorem dX13_takes_61 : decode cX13_takes 61 = .ok (.iload 6, 2) := by decide +kernel
theorem dX13_takes_63 : decode cX13_takes 63 = .ok (.bipush 8, 2) := by decide +kernel
theorem dX13_takes_65 : decode cX13_takes 65 = .ok (.iload_n 2, 1) := by decide +kernel
theorem dX13_takes_66 : decode cX13_takes 66 = .ok (.imul, 1) := by decide +kernel
theorem dX13_takes_67 : decode cX13_takes 67 = .ok (.ishl, 1) := by decide +kernel
theorem dX13_takes_68 : decode cX13_takes 68 = .ok (.ior, 1) := by decide +kernel
theorem dX13_takes_69 : decode cX13_takes 69 = .ok (.iastore, 1) := by decide +kernel
theorem dX13_takes_70 : decode cX13_takes 70 = .ok (.aload_n 0, 1) := by decide +kernel
theorem dX13_takes_71 : decode cX13_takes 71 = .ok (.getfield 7, 3) := by decide +kernel
theorem dX13_takes_74 : decode cX13_takes 74 = .ok (.iload_n 1, 1) := by decide +kernel
theorem dX13_takes_75 : decode cX13_takes 75 = .ok (.iload 5, 2) := by decide +kernel
theorem dX13_takes_77 : decode cX13_takes 77 = .ok (.invokestatic 84, 3) := by decide +kernel
theorem dX13_takes_80 : decode cX13_takes 80 = .ok (.dup2, 1) := by decide +kernel
theorem dX13_takes_81 : decode cX13_takes 81 = .ok (.iaload, 1) := by decide +kernel
theorem dX13_takes_82 : decode cX13_takes 82 = .ok (.aload_n 0, 1) := by decide +kernel
theorem dX13_takes_83 : decode cX13_takes 83 = .ok (.iload_n 3, 1) := by decide +kernel
theorem dX13_takes_84 : decode cX13_takes 84 = .ok (.iload 6, 2) := by decide +kernel
theorem dX13_takes_86 : decode cX13_takes 86 = .ok (.invokevirtual 87, 3) := by decide +kernel
theorem dX13_takes_89 : decode cX13_takes 89 = .ok (.ior, 1) := by decide +kernel
theorem dX13_takes_90 : decode cX13_takes 90 = .ok (.iastore, 1) := by decide +kernel
theorem dX13_takes_91 : decode cX13_takes 91 = .ok (.iload 6, 2) := by decide +kernel
theorem dX13_takes_93 : decode cX13_takes 93 = .ok (.iconst 1, 1) := by decide +kernel
theorem dX13_takes_94 : decode cX13_takes 94 = .ok (.iadd, 1) := by decide +kernel
theorem dX13_takes_95 : decode cX13_takes 95 = .ok (.istore 4, 2) := by decide +kernel
theorem dX13_takes_97 : decode cX13_takes 97 = .ok (.iinc 5 1, 3) := by decide +kernel
theorem dX13_takes_100 : decode cX13_takes 100 = .ok (.goto (-80), 3) := by decide +kernel
theorem dX13_takes_103 : decode cX13_takes 103 = .ok (.return_, 1) := by decide +kernel
theorem dX13_makeNow_0 : decode cX13_makeNow 0 = .ok (.aload_n 0, 1) := by decide +kernel
theorem dX13_makeNow_1 : decode cX13_makeNow 1 = .ok (.iload_n 1, 1) := by decide +kernel
theorem dX13_makeNow_2 : decode cX13_makeNow 2 = .ok (.iload_n 2, 1) := by decide +kernel
theorem dX13_makeNow_3 : decode cX13_makeNow 3 = .ok (.iload_n 3, 1) := by decide +kernel
theorem dX13_makeNow_4 : decode cX13_makeNow 4 = .ok (.iload 6, 2) := by decide +kernel
theorem dX13_makeNow_6 : decode cX13_makeNow 6 = .ok (.ifCond .lt 7, 3) := by decide +kernel
theorem dX13_makeNow_9 : decode cX13_makeNow 9 = .ok (.iconst 3, 1) := by decide +kernel
theorem dX13_makeNow_10 : decode cX13_makeNow 10 = .ok (.goto 13, 3) := by decide +kernel
theorem dX13_makeNow_13 : decode cX13_makeNow 13 = .ok (.iload 5, 2) := by decide +kernel
theorem dX13_makeNow_15 : decode cX13_makeNow 15 = .ok (.ifCond .lt 7, 3) := by decide +kernel
theorem dX13_makeNow_18 : decode cX13_makeNow 18 = .ok (.iconst 2, 1) := by decide +kernel
theorem dX13_makeNow_19 : decode cX13_makeNow 19 = .ok (.goto 4, 3) := by decide +kernel
theorem dX13_makeNow_22 : decode cX13_makeNow 22 = .ok (.iconst 1, 1) := by decide +kernel
theorem dX13_makeNow_23 : decode cX13_makeNow 23 = .ok (.invokevirtual 162, 3) := by decide +kernel
theorem dX13_makeNow_26 : decode cX13_makeNow 26 = .ok (.istore 7, 2) := by decide +kernel
theorem dX13_makeNow_28 : decode cX13_makeNow 28 = .ok (.aload_n 0, 1) := by decide +kernel
theorem dX13_makeNow_29 : decode cX13_makeNow 29 = .ok (.iload 7, 2) := by decide +kernel
theorem dX13_makeNow_31 : decode cX13_makeNow 31 = .ok (.iconst 0, 1) := by decide +kernel
theorem dX13_makeNow_32 : decode cX13_makeNow 32 = .ok (.iload 4, 2) := by decide +kernel
theorem dX13_makeNow_34 : decode cX13_makeNow 34 = .ok (.invokevirtual 190, 3) := by decide +kernel
theorem dX13_makeNow_37 : decode cX13_makeNow 37 = .ok (.iload 5, 2) := by decide +kernel
theorem dX13_makeNow_39 : decode cX13_makeNow 39 = .ok (.ifCond .lt 12, 3) := by decide +kernel
theorem dX13_makeNow_42 : decode cX13_makeNow 42 = .ok (.aload_n 0, 1) := by decide +kernel
theorem dX13_makeNow_43 : decode cX13_makeNow 43 = .ok (.iload 7, 2) := by decide +kernel
theorem dX13_makeNow_45 : decode cX13_makeNow 45 = .ok (.iconst 1, 1) := by decide +kernel
theorem dX13_makeNow_46 : decode cX13_makeNow 46 = .ok (.iload 5, 2) := by decide +kernel
theorem dX13_makeNow_48 : decode cX13_makeNow 48 = .ok (.invokevirtual 190, 3) := by decide +kernel
theorem dX13_makeNow_51 : decode cX13_makeNow 51 = .ok (.iload 6, 2) := by decide +kernel
theorem dX13_makeNow_53 : decode cX13_makeNow 53 = .ok (.ifCond .lt 12, 3) := by decide +kernel
theorem dX13_makeNow_56 : decode cX13_makeNow 56 = .ok (.aload_n 0, 1) := by decide +kernel
theorem dX13_makeNow_57 : decode cX13_makeNow 57 = .ok (.iload 7, 2) := by decide +kernel
theorem dX13_makeNow_59 : decode cX13_makeNow 59 = .ok (.iconst 2, 1) := by decide +kernel
theorem dX13_makeNow_60 : decode cX13_makeNow 60 = .ok (.iload 6, 2) := by decide +kernel
theorem dX13_makeNow_62 : decode cX13_makeNow 62 = .ok (.invokevirtual 190, 3) := by decide +kernel
theorem dX13_makeNow_65 : decode cX13_makeNow 65 = .ok (.iconst 0, 1) := by decide +kernel
theorem dX13_makeNow_66 : decode cX13_makeNow 66 = .ok (.istore 8, 2) := by decide +kernel
theorem dX13_makeNow_68 : decode cX13_makeNow 68 = .ok (.iload 8, 2) := by decide +kernel
theorem dX13_makeNow_70 : decode cX13_makeNow 70 = .ok (.iload_n 3, 1) := by decide +kernel
theorem dX13_makeNow_71 : decode cX13_makeNow 71 = .ok (.if_icmp .ge 18, 3) := by decide +kernel
theorem dX13_makeNow_74 : decode cX13_makeNow 74 = .ok (.aload_n 0, 1) := by decide +kernel
theorem dX13_makeNow_75 : decode cX13_makeNow 75 = .ok (.iload_n 1, 1) := by decide +kernel
theorem dX13_makeNow_76 : decode cX13_makeNow 76 = .ok (.iload 7, 2) := by decide +kernel
theorem dX13_makeNow_78 : decode cX13_makeNow 78 = .ok (.iload 8, 2) := by decide +kernel
theorem dX13_makeNow_80 : decode cX13_makeNow 80 = .ok (.invokevirtual 165, 3) := by decide +kernel
theorem dX13_makeNow_83 : decode cX13_makeNow 83 = .ok (.iinc 8 1, 3) := by decide +kernel
theorem dX13_makeNow_86 : decode cX13_makeNow 86 = .ok (.goto (-18), 3) := by decide +kernel
theorem dX13_makeNow_89 : decode cX13_makeNow 89 = .ok (.iload 7, 2) := by decide +kernel
theorem dX13_makeNow_91 : decode cX13_makeNow 91 = .ok (.ireturn, 1) := by decide +kernel
theorem dX13_make_0 : decode cX13_make 0 = .ok (.aload_n 0, 1) := by decide +kernel
theorem dX13_make_1 : decode cX13_make 1 = .ok (.aload_n 0, 1) := by decide +kernel
theorem dX13_make_2 : decode cX13_make 2 = .ok (.iload_n 1, 1) := by decide +kernel
theorem dX13_make_3 : decode cX13_make 3 = .ok (.iload_n 2, 1) := by decide +kernel
theorem dX13_make_4 : decode cX13_make 4 = .ok (.iload_n 3, 1) := by decide +kernel
theorem dX13_make_5 : decode cX13_make 5 = .ok (.iload 4, 2) := by decide +kernel
theorem dX13_make_7 : decode cX13_make 7 = .ok (.iload 5, 2) := by decide +kernel
theorem dX13_make_9 : decode cX13_make 9 = .ok (.iload 6, 2) := by decide +kernel
theorem dX13_make_11 : decode cX13_make 11 = .ok (.invokevirtual 193, 3) := by decide +kernel
theorem dX13_make_14 : decode cX13_make 14 = .ok (.putfield 54, 3) := by decide +kernel
theorem dX13_make_17 : decode cX13_make 17 = .ok (.aload_n 0, 1) := by decide +kernel
theorem dX13_make_18 : decode cX13_make 18 = .ok (.getfield 54, 3) := by decide +kernel
theorem dX13_make_21 : decode cX13_make 21 = .ok (.ifCond .le 5, 3) := by decide +kernel
theorem dX13_make_24 : decode cX13_make 24 = .ok (.iconst 0, 1) := by decide +kernel
theorem dX13_make_25 : decode cX13_make 25 = .ok (.ireturn, 1) := by decide +kernel
theorem dX13_make_26 : decode cX13_make 26 = .ok (.aload_n 0, 1) := by decide +kernel
theorem dX13_make_27 : decode cX13_make 27 = .ok (.aload_n 0, 1) := by decide +kernel
theorem dX13_make_28 : decode cX13_make 28 = .ok (.getfield 7, 3) := by decide +kernel
theorem dX13_make_31 : decode cX13_make 31 = .ok (.invokevirtual 111, 3) := by decide +kernel
theorem dX13_make_34 : decode cX13_make 34 = .ok (.aload_n 0, 1) := by decide +kernel
theorem dX13_make_35 : decode cX13_make 35 = .ok (.iload_n 1, 1) := by decide +kernel
theorem dX13_make_36 : decode cX13_make 36 = .ok (.iload_n 2, 1) := by decide +kernel
theorem dX13_make_37 : decode cX13_make 37 = .ok (.iload_n 3, 1) := by decide +kernel
theorem dX13_make_38 : decode cX13_make 38 = .ok (.iload 4, 2) := by decide +kernel
theorem dX13_make_40 : decode cX13_make 40 = .ok (.iload 5, 2) := by decide +kernel
theorem dX13_make_42 : decode cX13_make 42 = .ok (.iload 6, 2) := by decide +kernel
theorem dX13_make_44 : decode cX13_make 44 = .ok (.invokevirtual 197, 3) := by decide +kernel
theorem dX13_make_47 : decode cX13_make 47 = .ok (.ireturn, 1) := by decide +kernel
theorem dX13_causeOf_0 : decode cX13_causeOf 0 = .ok (.iload_n 1, 1) := by decide +kernel
theorem dX13_causeOf_1 : decode cX13_causeOf 1 = .ok (.istore 4, 2) := by decide +kernel
theorem dX13_causeOf_3 : decode cX13_causeOf 3 = .ok (.iload_n 2, 1) := by decide +kernel
theorem dX13_causeOf_4 : decode cX13_causeOf 4 = .ok (.istore 5, 2) := by decide +kernel
theorem dX13_causeOf_6 : decode cX13_causeOf 6 = .ok (.aload_n 0, 1) := by decide +kernel
theorem dX13_causeOf_7 : decode cX13_causeOf 7 = .ok (.iload 4, 2) := by decide +kernel
theorem dX13_causeOf_9 : decode cX13_causeOf 9 = .ok (.iload 5, 2) := by decide +kernel
theorem dX13_causeOf_11 : decode cX13_causeOf 11 = .ok (.iload_n 3, 1) := by decide +kernel
theorem dX13_causeOf_12 : decode cX13_causeOf 12 = .ok (.invokevirtual 200, 3) := by decide +kernel
theorem dX13_causeOf_15 : decode cX13_causeOf 15 = .ok (.ifCond .ne 70, 3) := by decide +kernel
theorem dX13_causeOf_18 : decode cX13_causeOf 18 = .ok (.iconst 0, 1) := by decide +kernel
theorem dX13_causeOf_19 : decode cX13_causeOf 19 = .ok (.istore 6, 2) := by decide +kernel
theorem dX13_causeOf_21 : decode cX13_causeOf 21 = .ok (.aload_n 0, 1) := by decide +kernel
theorem dX13_causeOf_22 : decode cX13_causeOf 22 = .ok (.aload_n 0, 1) := by decide +kernel
theorem dX13_causeOf_23 : decode cX13_causeOf 23 = .ok (.iload 4, 2) := by decide +kernel
theorem dX13_causeOf_25 : decode cX13_causeOf 25 = .ok (.iload 6, 2) := by decide +kernel
theorem dX13_causeOf_27 : decode cX13_causeOf 27 = .ok (.invokevirtual 203, 3) := by decide +kernel
theorem dX13_causeOf_30 : decode cX13_causeOf 30 = .ok (.aload_n 0, 1) := by decide +kernel
theorem dX13_causeOf_31 : decode cX13_causeOf 31 = .ok (.iload 4, 2) := by decide +kernel
theorem dX13_causeOf_33 : decode cX13_causeOf 33 = .ok (.iload 5, 2) := by decide +kernel
theorem dX13_causeOf_35 : decode cX13_causeOf 35 = .ok (.iload 6, 2) := by decide +kernel
theorem dX13_causeOf_37 : decode cX13_causeOf 37 = .ok (.invokevirtual 206, 3) := by decide +kernel
theorem dX13_causeOf_40 : decode cX13_causeOf 40 = .ok (.invokevirtual 87, 3) := by decide +kernel
theorem dX13_causeOf_43 : decode cX13_causeOf 43 = .ok (.iload_n 3, 1) := by decide +kernel
theorem dX13_causeOf_44 : decode cX13_causeOf 44 = .ok (.ishr, 1) := by decide +kernel
theorem dX13_causeOf_45 : decode cX13_causeOf 45 = .ok (.iconst 1, 1) := by decide +kernel
theorem dX13_causeOf_46 : decode cX13_causeOf 46 = .ok (.iand, 1) := by decide +kernel
theorem dX13_causeOf_47 : decode cX13_causeOf 47 = .ok (.ifCond .ne 9, 3) := by decide +kernel
theorem dX13_causeOf_50 : decode cX13_causeOf 50 = .ok (.iinc 6 1, 3) := by decide +kernel
theorem dX13_causeOf_53 : decode cX13_causeOf 53 = .ok (.goto (-32), 3) := by decide +kernel
theorem dX13_causeOf_56 : decode cX13_causeOf 56 = .ok (.aload_n 0, 1) := by decide +kernel
theorem dX13_causeOf_57 : decode cX13_causeOf 57 = .ok (.iload 4, 2) := by decide +kernel
theorem dX13_causeOf_59 : decode cX13_causeOf 59 = .ok (.iload 5, 2) := by decide +kernel
theorem dX13_causeOf_61 : decode cX13_causeOf 61 = .ok (.iload 6, 2) := by decide +kernel
theorem dX13_causeOf_63 : decode cX13_causeOf 63 = .ok (.invokevirtual 206, 3) := by decide +kernel
theorem dX13_causeOf_66 : decode cX13_causeOf 66 = .ok (.istore 7, 2) := by decide +kernel
theorem dX13_causeOf_68 : decode cX13_causeOf 68 = .ok (.aload_n 0, 1) := by decide +kernel
theorem dX13_causeOf_69 : decode cX13_causeOf 69 = .ok (.iload 4, 2) := by decide +kernel
theorem dX13_causeOf_71 : decode cX13_causeOf 71 = .ok (.iload 6, 2) := by decide +kernel
theorem dX13_causeOf_73 : decode cX13_causeOf 73 = .ok (.invokevirtual 203, 3) := by decide +kernel
theorem dX13_causeOf_76 : decode cX13_causeOf 76 = .ok (.istore 4, 2) := by decide +kernel
theorem dX13_causeOf_78 : decode cX13_causeOf 78 = .ok (.iload 7, 2) := by decide +kernel
theorem dX13_causeOf_80 : decode cX13_causeOf 80 = .ok (.istore 5, 2) := by decide +kernel
theorem dX13_causeOf_82 : decode cX13_causeOf 82 = .ok (.goto (-76), 3) := by decide +kernel
theorem dX13_causeOf_85 : decode cX13_causeOf 85 = .ok (.aload_n 0, 1) := by decide +kernel
theorem dX13_causeOf_86 : decode cX13_causeOf 86 = .ok (.iload 4, 2) := by decide +kernel
theorem dX13_causeOf_88 : decode cX13_causeOf 88 = .ok (.putfield 209, 3) := by decide +kernel
theorem dX13_causeOf_91 : decode cX13_causeOf 91 = .ok (.aload_n 0, 1) := by decide +kernel
theorem dX13_causeOf_92 : decode cX13_causeOf 92 = .ok (.iload 5, 2) := by decide +kernel
theorem dX13_causeOf_94 : decode cX13_causeOf 94 = .ok (.putfield 212, 3) := by decide +kernel
theorem dX13_causeOf_97 : decode cX13_causeOf 97 = .ok (.aload_n 0, 1) := by decide +kernel
theorem dX13_causeOf_98 : decode cX13_causeOf 98 = .ok (.iload 4, 2) := by decide +kernel
theorem dX13_causeOf_100 : decode cX13_causeOf 100 = .ok (.iload 5, 2) := by decide +kernel
theorem dX13_causeOf_102 : decode cX13_causeOf 102 = .ok (.iload_n 3, 1) := by decide +kernel
theorem dX13_causeOf_103 : decode cX13_causeOf 103 = .ok (.invokevirtual 200, 3) := by decide +kernel
theorem dX13_causeOf_106 : decode cX13_causeOf 106 = .ok (.iconst 2, 1) := by decide +kernel
theorem dX13_causeOf_107 : decode cX13_causeOf 107 = .ok (.if_icmp .ne 8, 3) := by decide +kernel
theorem dX13_causeOf_110 : decode cX13_causeOf 110 = .ok (.bipush 6, 2) := by decide +kernel
theorem dX13_causeOf_112 : decode cX13_causeOf 112 = .ok (.goto 15, 3) := by decide +kernel
theorem dX13_causeOf_115 : decode cX13_causeOf 115 = .ok (.aload_n 0, 1) := by decide +kernel
theorem dX13_causeOf_116 : decode cX13_causeOf 116 = .ok (.getfield 7, 3) := by decide +kernel
theorem dX13_causeOf_119 : decode cX13_causeOf 119 = .ok (.iload 4, 2) := by decide +kernel
theorem dX13_causeOf_121 : decode cX13_causeOf 121 = .ok (.bipush 9, 2) := by decide +kernel
theorem dX13_causeOf_123 : decode cX13_causeOf 123 = .ok (.invokestatic 72, 3) := by decide +kernel
theorem dX13_causeOf_126 : decode cX13_causeOf 126 = .ok (.iaload, 1) := by decide +kernel
theorem dX13_causeOf_127 : decode cX13_causeOf 127 = .ok (.ireturn, 1) := by decide +kernel
theorem dX13_blames_0 : decode cX13_blames 0 = .ok (.iconst 0, 1) := by decide +kernel
theorem dX13_blames_1 : decode cX13_blames 1 = .ok (.istore 4, 2) := by decide +kernel
theorem dX13_blames_3 : decode cX13_blames 3 = .ok (.iload 4, 2) := by decide +kernel
theorem dX13_blames_5 : decode cX13_blames 5 = .ok (.iconst 4, 1) := by decide +kernel
theorem dX13_blames_6 : decode cX13_blames 6 = .ok (.if_icmp .ge 51, 3) := by decide +kernel
theorem dX13_blames_9 : decode cX13_blames 9 = .ok (.aload_n 0, 1) := by decide +kernel
theorem dX13_blames_10 : decode cX13_blames 10 = .ok (.iload_n 1, 1) := by decide +kernel
theorem dX13_blames_11 : decode cX13_blames 11 = .ok (.iload_n 2, 1) := by decide +kernel
theorem dX13_blames_12 : decode cX13_blames 12 = .ok (.invokevirtual 87, 3) := by decide +kernel
theorem dX13_blames_15 : decode cX13_blames 15 = .ok (.iload_n 3, 1) := by decide +kernel
theorem dX13_blames_16 : decode cX13_blames 16 = .ok (.iand, 1) := by decide +kernel
theorem dX13_blames_17 : decode cX13_blames 17 = .ok (.iload 4, 2) := by decide +kernel
theorem dX13_blames_19 : decode cX13_blames 19 = .ok (.ishr, 1) := by decide +kernel
theorem dX13_blames_20 : decode cX13_blames 20 = .ok (.iconst 1, 1) := by decide +kernel
theorem dX13_blames_21 : decode cX13_blames 21 = .ok (.iand, 1) := by decide +kernel
theorem dX13_blames_22 : decode cX13_blames 22 = .ok (.iconst 1, 1) := by decide +kernel
theorem dX13_blames_23 : decode cX13_blames 23 = .ok (.if_icmp .ne 28, 3) := by decide +kernel
theorem dX13_blames_26 : decode cX13_blames 26 = .ok (.aload_n 0, 1) := by decide +kernel
theorem dX13_blames_27 : decode cX13_blames 27 = .ok (.getfield 7, 3) := by decide +kernel
theorem dX13_blames_30 : decode cX13_blames 30 = .ok (.bipush 62, 2) := by decide +kernel
theorem dX13_blames_32 : decode cX13_blames 32 = .ok (.iconst 4, 1) := by decide +kernel
theorem dX13_blames_33 : decode cX13_blames 33 = .ok (.aload_n 0, 1) := by decide +kernel
theorem dX13_blames_34 : decode cX13_blames 34 = .ok (.iload_n 1, 1) := by decide +kernel
theorem dX13_blames_35 : decode cX13_blames 35 = .ok (.iload_n 2, 1) := by decide +kernel
theorem dX13_blames_36 : decode cX13_blames 36 = .ok (.iload 4, 2) := by decide +kernel
theorem dX13_blames_38 : decode cX13_blames 38 = .ok (.invokevirtual 215, 3) := by decide +kernel
theorem dX13_blames_41 : decode cX13_blames 41 = .ok (.imul, 1) := by decide +kernel
theorem dX13_blames_42 : decode cX13_blames 42 = .ok (.iadd, 1) := by decide +kernel
theorem dX13_blames_43 : decode cX13_blames 43 = .ok (.iload 4, 2) := by decide +kernel
theorem dX13_blames_45 : decode cX13_blames 45 = .ok (.iadd, 1) := by decide +kernel
theorem dX13_blames_46 : decode cX13_blames 46 = .ok (.dup2, 1) := by decide +kernel
theorem dX13_blames_47 : decode cX13_blames 47 = .ok (.iaload, 1) := by decide +kernel
theorem dX13_blames_48 : decode cX13_blames 48 = .ok (.iconst 1, 1) := by decide +kernel
theorem dX13_blames_49 : decode cX13_blames 49 = .ok (.iadd, 1) := by decide +kernel
theorem dX13_blames_50 : decode cX13_blames 50 = .ok (.iastore, 1) := by decide +kernel
theorem dX13_blames_51 : decode cX13_blames 51 = .ok (.iinc 4 1, 3) := by decide +kernel
theorem dX13_blames_54 : decode cX13_blames 54 = .ok (.goto (-51), 3) := by decide +kernel
theorem dX13_blames_57 : decode cX13_blames 57 = .ok (.return_, 1) := by decide +kernel
theorem dX13_trace_0 : decode cX13_trace 0 = .ok (.aload_n 0, 1) := by decide +kernel
theorem dX13_trace_1 : decode cX13_trace 1 = .ok (.aload_n 0, 1) := by decide +kernel
theorem dX13_trace_2 : decode cX13_trace 2 = .ok (.iload_n 1, 1) := by decide +kernel
theorem dX13_trace_3 : decode cX13_trace 3 = .ok (.iload_n 2, 1) := by decide +kernel
theorem dX13_trace_4 : decode cX13_trace 4 = .ok (.invokevirtual 218, 3) := by decide +kernel
theorem dX13_trace_7 : decode cX13_trace 7 = .ok (.ifCond .ne 7, 3) := by decide +kernel
theorem dX13_trace_10 : decode cX13_trace 10 = .ok (.iconst 1, 1) := by decide +kernel
theorem dX13_trace_11 : decode cX13_trace 11 = .ok (.goto 34, 3) := by decide +kernel
theorem dX13_trace_14 : decode cX13_trace 14 = .ok (.iload_n 3, 1) := by decide +kernel
theorem dX13_trace_15 : decode cX13_trace 15 = .ok (.iconst 0, 1) := by decide +kernel
theorem dX13_trace_16 : decode cX13_trace 16 = .ok (.iconst 3, 1) := by decide +kernel
theorem dX13_trace_17 : decode cX13_trace 17 = .ok (.invokestatic 68, 3) := by decide +kernel
theorem dX13_trace_20 : decode cX13_trace 20 = .ok (.ifCond .ne 7, 3) := by decide +kernel
theorem dX13_trace_23 : decode cX13_trace 23 = .ok (.iconst 2, 1) := by decide +kernel
theorem dX13_trace_24 : decode cX13_trace 24 = .ok (.goto 21, 3) := by decide +kernel
theorem dX13_trace_27 : decode cX13_trace 27 = .ok (.aload_n 0, 1) := by decide +kernel
theorem dX13_trace_28 : decode cX13_trace 28 = .ok (.iload_n 1, 1) := by decide +kernel
theorem dX13_trace_29 : decode cX13_trace 29 = .ok (.iload_n 2, 1) := by decide +kernel
theorem dX13_trace_30 : decode cX13_trace 30 = .ok (.invokevirtual 87, 3) := by decide +kernel
theorem dX13_trace_33 : decode cX13_trace 33 = .ok (.iload_n 3, 1) := by decide +kernel
theorem dX13_trace_34 : decode cX13_trace 34 = .ok (.ishr, 1) := by decide +kernel
theorem dX13_trace_35 : decode cX13_trace 35 = .ok (.iconst 1, 1) := by decide +kernel
theorem dX13_trace_36 : decode cX13_trace 36 = .ok (.iand, 1) := by decide +kernel
theorem dX13_trace_37 : decode cX13_trace 37 = .ok (.ifCond .ne 7, 3) := by decide +kernel
theorem dX13_trace_40 : decode cX13_trace 40 = .ok (.iconst 3, 1) := by decide +kernel
theorem dX13_trace_41 : decode cX13_trace 41 = .ok (.goto 4, 3) := by decide +kernel
theorem dX13_trace_44 : decode cX13_trace 44 = .ok (.iconst 0, 1) := by decide +kernel
theorem dX13_trace_45 : decode cX13_trace 45 = .ok (.putfield 54, 3) := by decide +kernel
theorem dX13_trace_48 : decode cX13_trace 48 = .ok (.aload_n 0, 1) := by decide +kernel
theorem dX13_trace_49 : decode cX13_trace 49 = .ok (.getfield 54, 3) := by decide +kernel
theorem dX13_trace_52 : decode cX13_trace 52 = .ok (.ifCond .le 5, 3) := by decide +kernel
theorem dX13_trace_55 : decode cX13_trace 55 = .ok (.iconst 0, 1) := by decide +kernel
theorem dX13_trace_56 : decode cX13_trace 56 = .ok (.ireturn, 1) := by decide +kernel
theorem dX13_trace_57 : decode cX13_trace 57 = .ok (.aload_n 0, 1) := by decide +kernel
theorem dX13_trace_58 : decode cX13_trace 58 = .ok (.iload_n 1, 1) := by decide +kernel
theorem dX13_trace_59 : decode cX13_trace 59 = .ok (.iload_n 2, 1) := by decide +kernel
theorem dX13_trace_60 : decode cX13_trace 60 = .ok (.iload_n 3, 1) := by decide +kernel
theorem dX13_trace_61 : decode cX13_trace 61 = .ok (.invokevirtual 215, 3) := by decide +kernel
theorem dX13_trace_64 : decode cX13_trace 64 = .ok (.istore 5, 2) := by decide +kernel
theorem dX13_trace_66 : decode cX13_trace 66 = .ok (.iload 4, 2) := by decide +kernel
theorem dX13_trace_68 : decode cX13_trace 68 = .ok (.ifCond .eq 8, 3) := by decide +kernel
theorem dX13_trace_71 : decode cX13_trace 71 = .ok (.iload 5, 2) := by decide +kernel
theorem dX13_trace_73 : decode cX13_trace 73 = .ok (.goto 16, 3) := by decide +kernel
theorem dX13_trace_76 : decode cX13_trace 76 = .ok (.sipush 1000, 3) := by decide +kernel
theorem dX13_trace_79 : decode cX13_trace 79 = .ok (.aload_n 0, 1) := by decide +kernel
theorem dX13_trace_80 : decode cX13_trace 80 = .ok (.getfield 209, 3) := by decide +kernel
theorem dX13_trace_83 : decode cX13_trace 83 = .ok (.imul, 1) := by decide +kernel
theorem dX13_trace_84 : decode cX13_trace 84 = .ok (.aload_n 0, 1) := by decide +kernel
theorem dX13_trace_85 : decode cX13_trace 85 = .ok (.getfield 212, 3) := by decide +kernel
theorem dX13_trace_88 : decode cX13_trace 88 = .ok (.iadd, 1) := by decide +kernel
theorem dX13_trace_89 : decode cX13_trace 89 = .ok (.ireturn, 1) := by decide +kernel
theorem dX13_againstInspect_0 : decode cX13_againstInspect 0 = .ok (.aload_n 0, 1) := by decide +kernel
theorem dX13_againstInspect_1 : decode cX13_againstInspect 1 = .ok (.iload_n 1, 1) := by decide +kernel
theorem dX13_againstInspect_2 : decode cX13_againstInspect 2 = .ok (.invokevirtual 76, 3) := by decide +kernel
theorem dX13_againstInspect_5 : decode cX13_againstInspect 5 = .ok (.ifCond .eq 49, 3) := by decide +kernel
theorem dX13_againstInspect_8 : decode cX13_againstInspect 8 = .ok (.aload_n 0, 1) := by decide +kernel
theorem dX13_againstInspect_9 : decode cX13_againstInspect 9 = .ok (.getfield 7, 3) := by decide +kernel
theorem dX13_againstInspect_12 : decode cX13_againstInspect 12 = .ok (.iload_n 1, 1) := by decide +kernel
theorem dX13_againstInspect_13 : decode cX13_againstInspect 13 = .ok (.iconst 2, 1) := by decide +kernel
theorem dX13_againstInspect_14 : decode cX13_againstInspect 14 = .ok (.invokestatic 72, 3) := by decide +kernel
theorem dX13_againstInspect_17 : decode cX13_againstInspect 17 = .ok (.iaload, 1) := by decide +kernel
theorem dX13_againstInspect_18 : decode cX13_againstInspect 18 = .ok (.ifCond .ne 28, 3) := by decide +kernel
theorem dX13_againstInspect_21 : decode cX13_againstInspect 21 = .ok (.aload_n 0, 1) := by decide +kernel
theorem dX13_againstInspect_22 : decode cX13_againstInspect 22 = .ok (.iload_n 1, 1) := by decide +kernel
theorem dX13_againstInspect_23 : decode cX13_againstInspect 23 = .ok (.iconst 0, 1) := by decide +kernel
theorem dX13_againstInspect_24 : decode cX13_againstInspect 24 = .ok (.invokevirtual 175, 3) := by decide +kernel
theorem dX13_againstInspect_27 : decode cX13_againstInspect 27 = .ok (.ifCond .eq 19, 3) := by decide +kernel
theorem dX13_againstInspect_30 : decode cX13_againstInspect 30 = .ok (.aload_n 0, 1) := by decide +kernel
theorem dX13_againstInspect_31 : decode cX13_againstInspect 31 = .ok (.getfield 7, 3) := by decide +kernel
theorem dX13_againstInspect_34 : decode cX13_againstInspect 34 = .ok (.aload_n 0, 1) := by decide +kernel
theorem dX13_againstInspect_35 : decode cX13_againstInspect 35 = .ok (.iload_n 1, 1) := by decide +kernel
theorem dX13_againstInspect_36 : decode cX13_againstInspect 36 = .ok (.invokevirtual 90, 3) := by decide +kernel
theorem dX13_againstInspect_39 : decode cX13_againstInspect 39 = .ok (.iconst 3, 1) := by decide +kernel
theorem dX13_againstInspect_40 : decode cX13_againstInspect 40 = .ok (.iadd, 1) := by decide +kernel
theorem dX13_againstInspect_41 : decode cX13_againstInspect 41 = .ok (.iaload, 1) := by decide +kernel
theorem dX13_againstInspect_42 : decode cX13_againstInspect 42 = .ok (.iconst 3, 1) := by decide +kernel
theorem dX13_againstInspect_43 : decode cX13_againstInspect 43 = .ok (.if_icmp .ne 7, 3) := by decide +kernel
theorem dX13_againstInspect_46 : decode cX13_againstInspect 46 = .ok (.iconst 2, 1) := by decide +kernel
theorem dX13_againstInspect_47 : decode cX13_againstInspect 47 = .ok (.goto 8, 3) := by decide +kernel
theorem dX13_againstInspect_50 : decode cX13_againstInspect 50 = .ok (.iconst 0, 1) := by decide +kernel
theorem dX13_againstInspect_51 : decode cX13_againstInspect 51 = .ok (.goto 4, 3) := by decide +kernel
theorem dX13_againstInspect_54 : decode cX13_againstInspect 54 = .ok (.iconst 1, 1) := by decide +kernel
theorem dX13_againstInspect_55 : decode cX13_againstInspect 55 = .ok (.ireturn, 1) := by decide +kernel
theorem dX13_drawable_0 : decode cX13_drawable 0 = .ok (.iload_n 2, 1) := by decide +kernel
theorem dX13_drawable_1 : decode cX13_drawable 1 = .ok (.istore_n 3, 1) := by decide +kernel
theorem dX13_drawable_2 : decode cX13_drawable 2 = .ok (.iconst 0, 1) := by decide +kernel
theorem dX13_drawable_3 : decode cX13_drawable 3 = .ok (.istore 4, 2) := by decide +kernel
theorem dX13_drawable_5 : decode cX13_drawable 5 = .ok (.aload_n 0, 1) := by decide +kernel
theorem dX13_drawable_6 : decode cX13_drawable 6 = .ok (.iload_n 1, 1) := by decide +kernel
theorem dX13_drawable_7 : decode cX13_drawable 7 = .ok (.iload 4, 2) := by decide +kernel
theorem dX13_drawable_9 : decode cX13_drawable 9 = .ok (.invokevirtual 93, 3) := by decide +kernel
theorem dX13_drawable_12 : decode cX13_drawable 12 = .ok (.ifCond .ne 17, 3) := by decide +kernel
theorem dX13_drawable_15 : decode cX13_drawable 15 = .ok (.aload_n 0, 1) := by decide +kernel
theorem dX13_drawable_16 : decode cX13_drawable 16 = .ok (.getfield 23, 3) := by decide +kernel
theorem dX13_drawable_19 : decode cX13_drawable 19 = .ok (.iload 4, 2) := by decide +kernel
theorem dX13_drawable_21 : decode cX13_drawable 21 = .ok (.baload, 1) := by decide +kernel
theorem dX13_drawable_22 : decode cX13_drawable 22 = .ok (.ifCond .ne 7, 3) := by decide +kernel
theorem dX13_drawable_25 : decode cX13_drawable 25 = .ok (.iload_n 3, 1) := by decide +kernel
theorem dX13_drawable_26 : decode cX13_drawable 26 = .ok (.ifCond .le 37, 3) := by decide +kernel
theorem dX13_drawable_29 : decode cX13_drawable 29 = .ok (.iload_n 3, 1) := by decide +kernel
theorem dX13_drawable_30 : decode cX13_drawable 30 = .ok (.aload_n 0, 1) := by decide +kernel
theorem dX13_drawable_31 : decode cX13_drawable 31 = .ok (.iload_n 1, 1) := by decide +kernel
theorem dX13_drawable_32 : decode cX13_drawable 32 = .ok (.iload 4, 2) := by decide +kernel
theorem dX13_drawable_34 : decode cX13_drawable 34 = .ok (.invokevirtual 93, 3) := by decide +kernel
theorem dX13_drawable_37 : decode cX13_drawable 37 = .ok (.ifCond .ne 17, 3) := by decide +kernel
theorem dX13_drawable_40 : decode cX13_drawable 40 = .ok (.aload_n 0, 1) := by decide +kernel
theorem dX13_drawable_41 : decode cX13_drawable 41 = .ok (.getfield 23, 3) := by decide +kernel
theorem dX13_drawable_44 : decode cX13_drawable 44 = .ok (.iload 4, 2) := by decide +kernel
theorem dX13_drawable_46 : decode cX13_drawable 46 = .ok (.baload, 1) := by decide +kernel
theorem dX13_drawable_47 : decode cX13_drawable 47 = .ok (.ifCond .ne 7, 3) := by decide +kernel
theorem dX13_drawable_50 : decode cX13_drawable 50 = .ok (.iconst 1, 1) := by decide +kernel
theorem dX13_drawable_51 : decode cX13_drawable 51 = .ok (.goto 4, 3) := by decide +kernel
theorem dX13_drawable_54 : decode cX13_drawable 54 = .ok (.iconst 0, 1) := by decide +kernel
theorem dX13_drawable_55 : decode cX13_drawable 55 = .ok (.isub, 1) := by decide +kernel
theorem dX13_drawable_56 : decode cX13_drawable 56 = .ok (.istore_n 3, 1) := by decide +kernel
theorem dX13_drawable_57 : decode cX13_drawable 57 = .ok (.iinc 4 1, 3) := by decide +kernel
theorem dX13_drawable_60 : decode cX13_drawable 60 = .ok (.goto (-55), 3) := by decide +kernel
theorem dX13_drawable_63 : decode cX13_drawable 63 = .ok (.iload 4, 2) := by decide +kernel
theorem dX13_drawable_65 : decode cX13_drawable 65 = .ok (.ireturn, 1) := by decide +kernel
theorem dX13_inspectNow_0 : decode cX13_inspectNow 0 = .ok (.aload_n 0, 1) := by decide +kernel
theorem dX13_inspectNow_1 : decode cX13_inspectNow 1 = .ok (.iload_n 1, 1) := by decide +kernel
theorem dX13_inspectNow_2 : decode cX13_inspectNow 2 = .ok (.invokevirtual 90, 3) := by decide +kernel
theorem dX13_inspectNow_5 : decode cX13_inspectNow 5 = .ok (.istore_n 2, 1) := by decide +kernel
theorem dX13_inspectNow_6 : decode cX13_inspectNow 6 = .ok (.aload_n 0, 1) := by decide +kernel
theorem dX13_inspectNow_7 : decode cX13_inspectNow 7 = .ok (.getfield 7, 3) := by decide +kernel
theorem dX13_inspectNow_10 : decode cX13_inspectNow 10 = .ok (.iload_n 1, 1) := by decide +kernel
theorem dX13_inspectNow_11 : decode cX13_inspectNow 11 = .ok (.iconst 3, 1) := by decide +kernel
theorem dX13_inspectNow_12 : decode cX13_inspectNow 12 = .ok (.invokestatic 72, 3) := by decide +kernel
theorem dX13_inspectNow_15 : decode cX13_inspectNow 15 = .ok (.iaload, 1) := by decide +kernel
theorem dX13_inspectNow_16 : decode cX13_inspectNow 16 = .ok (.ifCond .ne 14, 3) := by decide +kernel
theorem dX13_inspectNow_19 : decode cX13_inspectNow 19 = .ok (.aload_n 0, 1) := by decide +kernel
theorem dX13_inspectNow_20 : decode cX13_inspectNow 20 = .ok (.getfield 7, 3) := by decide +kernel
theorem dX13_inspectNow_23 : decode cX13_inspectNow 23 = .ok (.iload_n 2, 1) := by decide +kernel
theorem dX13_inspectNow_24 : decode cX13_inspectNow 24 = .ok (.iconst 3, 1) := by decide +kernel
theorem dX13_inspectNow_25 : decode cX13_inspectNow 25 = .ok (.iadd, 1) := by decide +kernel
theorem dX13_inspectNow_26 : decode cX13_inspectNow 26 = .ok (.iaload, 1) := by decide +kernel
theorem dX13_inspectNow_27 : decode cX13_inspectNow 27 = .ok (.goto 4, 3) := by decide +kernel
theorem dX13_inspectNow_30 : decode cX13_inspectNow 30 = .ok (.iconst 1, 1) := by decide +kernel
theorem dX13_inspectNow_31 : decode cX13_inspectNow 31 = .ok (.istore_n 3, 1) := by decide +kernel
theorem dX13_inspectNow_32 : decode cX13_inspectNow 32 = .ok (.aload_n 0, 1) := by decide +kernel
theorem dX13_inspectNow_33 : decode cX13_inspectNow 33 = .ok (.iload_n 1, 1) := by decide +kernel
theorem dX13_inspectNow_34 : decode cX13_inspectNow 34 = .ok (.iconst 0, 1) := by decide +kernel
theorem dX13_inspectNow_35 : decode cX13_inspectNow 35 = .ok (.invokevirtual 175, 3) := by decide +kernel
theorem dX13_inspectNow_38 : decode cX13_inspectNow 38 = .ok (.istore 4, 2) := by decide +kernel
theorem dX13_inspectNow_40 : decode cX13_inspectNow 40 = .ok (.iload 4, 2) := by decide +kernel
theorem dX13_inspectNow_42 : decode cX13_inspectNow 42 = .ok (.iload_n 3, 1) := by decide +kernel
theorem dX13_inspectNow_43 : decode cX13_inspectNow 43 = .ok (.invokestatic 134, 3) := by decide +kernel
theorem dX13_inspectNow_46 : decode cX13_inspectNow 46 = .ok (.istore 5, 2) := by decide +kernel
theorem dX13_inspectNow_48 : decode cX13_inspectNow 48 = .ok (.iload 5, 2) := by decide +kernel
theorem dX13_inspectNow_50 : decode cX13_inspectNow 50 = .ok (.aload_n 0, 1) := by decide +kernel
theorem dX13_inspectNow_51 : decode cX13_inspectNow 51 = .ok (.getfield 7, 3) := by decide +kernel
theorem dX13_inspectNow_54 : decode cX13_inspectNow 54 = .ok (.iload_n 2, 1) := by decide +kernel
theorem dX13_inspectNow_55 : decode cX13_inspectNow 55 = .ok (.iaload, 1) := by decide +kernel
theorem dX13_inspectNow_56 : decode cX13_inspectNow 56 = .ok (.iload_n 3, 1) := by decide +kernel
theorem dX13_inspectNow_57 : decode cX13_inspectNow 57 = .ok (.invokestatic 137, 3) := by decide +kernel
theorem dX13_inspectNow_60 : decode cX13_inspectNow 60 = .ok (.istore 6, 2) := by decide +kernel
theorem dX13_inspectNow_62 : decode cX13_inspectNow 62 = .ok (.iconst 0, 1) := by decide +kernel
theorem dX13_inspectNow_63 : decode cX13_inspectNow 63 = .ok (.istore 7, 2) := by decide +kernel
theorem dX13_inspectNow_65 : decode cX13_inspectNow 65 = .ok (.iload 7, 2) := by decide +kernel
theorem dX13_inspectNow_67 : decode cX13_inspectNow 67 = .ok (.aload_n 0, 1) := by decide +kernel
theorem dX13_inspectNow_68 : decode cX13_inspectNow 68 = .ok (.iload_n 1, 1) := by decide +kernel
theorem dX13_inspectNow_69 : decode cX13_inspectNow 69 = .ok (.invokevirtual 80, 3) := by decide +kernel
theorem dX13_inspectNow_72 : decode cX13_inspectNow 72 = .ok (.if_icmp .ge 17, 3) := by decide +kernel
theorem dX13_inspectNow_75 : decode cX13_inspectNow 75 = .ok (.aload_n 0, 1) := by decide +kernel
theorem dX13_inspectNow_76 : decode cX13_inspectNow 76 = .ok (.getfield 23, 3) := by decide +kernel
theorem dX13_inspectNow_79 : decode cX13_inspectNow 79 = .ok (.iload 7, 2) := by decide +kernel
theorem dX13_inspectNow_81 : decode cX13_inspectNow 81 = .ok (.iconst 0, 1) := by decide +kernel
theorem dX13_inspectNow_82 : decode cX13_inspectNow 82 = .ok (.bastore, 1) := by decide +kernel
theorem dX13_inspectNow_83 : decode cX13_inspectNow 83 = .ok (.iinc 7 1, 3) := by decide +kernel
theorem dX13_inspectNow_86 : decode cX13_inspectNow 86 = .ok (.goto (-21), 3) := by decide +kernel
theorem dX13_inspectNow_89 : decode cX13_inspectNow 89 = .ok (.iconst 0, 1) := by decide +kernel
theorem dX13_inspectNow_90 : decode cX13_inspectNow 90 = .ok (.istore 7, 2) := by decide +kernel
theorem dX13_inspectNow_92 : decode cX13_inspectNow 92 = .ok (.iload 7, 2) := by decide +kernel
theorem dX13_inspectNow_94 : decode cX13_inspectNow 94 = .ok (.iload 5, 2) := by decide +kernel
theorem dX13_inspectNow_96 : decode cX13_inspectNow 96 = .ok (.if_icmp .ge 29, 3) := by decide +kernel
theorem dX13_inspectNow_99 : decode cX13_inspectNow 99 = .ok (.aload_n 0, 1) := by decide +kernel
theorem dX13_inspectNow_100 : decode cX13_inspectNow 100 = .ok (.getfield 23, 3) := by decide +kernel
theorem dX13_inspectNow_103 : decode cX13_inspectNow 103 = .ok (.aload_n 0, 1) := by decide +kernel
theorem dX13_inspectNow_104 : decode cX13_inspectNow 104 = .ok (.iload_n 1, 1) := by decide +kernel
theorem dX13_inspectNow_105 : decode cX13_inspectNow 105 = .ok (.aload_n 0, 1) := by decide +kernel
theorem dX13_inspectNow_106 : decode cX13_inspectNow 106 = .ok (.iload 4, 2) := by decide +kernel
theorem dX13_inspectNow_108 : decode cX13_inspectNow 108 = .ok (.iload 7, 2) := by decide +kernel
theorem dX13_inspectNow_110 : decode cX13_inspectNow 110 = .ok (.isub, 1) := by decide +kernel
theorem dX13_inspectNow_111 : decode cX13_inspectNow 111 = .ok (.invokevirtual 221, 3) := by decide +kernel
theorem dX13_inspectNow_114 : decode cX13_inspectNow 114 = .ok (.invokevirtual 224, 3) := by decide +kernel
theorem dX13_inspectNow_117 : decode cX13_inspectNow 117 = .ok (.iconst 1, 1) := by decide +kernel
theorem dX13_inspectNow_118 : decode cX13_inspectNow 118 = .ok (.bastore, 1) := by decide +kernel
theorem dX13_inspectNow_119 : decode cX13_inspectNow 119 = .ok (.iinc 7 1, 3) := by decide +kernel
theorem dX13_inspectNow_122 : decode cX13_inspectNow 122 = .ok (.goto (-30), 3) := by decide +kernel
theorem dX13_inspectNow_125 : decode cX13_inspectNow 125 = .ok (.iconst 0, 1) := by decide +kernel
theorem dX13_inspectNow_126 : decode cX13_inspectNow 126 = .ok (.istore 7, 2) := by decide +kernel
theorem dX13_inspectNow_128 : decode cX13_inspectNow 128 = .ok (.iconst 0, 1) := by decide +kernel
theorem dX13_inspectNow_129 : decode cX13_inspectNow 129 = .ok (.istore 8, 2) := by decide +kernel
theorem dX13_inspectNow_131 : decode cX13_inspectNow 131 = .ok (.iload 8, 2) := by decide +kernel
theorem dX13_inspectNow_133 : decode cX13_inspectNow 133 = .ok (.aload_n 0, 1) := by decide +kernel
theorem dX13_inspectNow_134 : decode cX13_inspectNow 134 = .ok (.iload_n 1, 1) := by decide +kernel
theorem dX13_inspectNow_135 : decode cX13_inspectNow 135 = .ok (.invokevirtual 80, 3) := by decide +kernel
theorem dX13_inspectNow_138 : decode cX13_inspectNow 138 = .ok (.if_icmp .ge 55, 3) := by decide +kernel
theorem dX13_inspectNow_141 : decode cX13_inspectNow 141 = .ok (.aload_n 0, 1) := by decide +kernel
theorem dX13_inspectNow_142 : decode cX13_inspectNow 142 = .ok (.getfield 23, 3) := by decide +kernel
theorem dX13_inspectNow_145 : decode cX13_inspectNow 145 = .ok (.iload 8, 2) := by decide +kernel
theorem dX13_inspectNow_147 : decode cX13_inspectNow 147 = .ok (.baload, 1) := by decide +kernel
theorem dX13_inspectNow_148 : decode cX13_inspectNow 148 = .ok (.ifCond .eq 39, 3) := by decide +kernel
theorem dX13_inspectNow_151 : decode cX13_inspectNow 151 = .ok (.aload_n 0, 1) := by decide +kernel
theorem dX13_inspectNow_152 : decode cX13_inspectNow 152 = .ok (.iload_n 1, 1) := by decide +kernel
theorem dX13_inspectNow_153 : decode cX13_inspectNow 153 = .ok (.iload 8, 2) := by decide +kernel
theorem dX13_inspectNow_155 : decode cX13_inspectNow 155 = .ok (.invokevirtual 96, 3) := by decide +kernel
theorem dX13_inspectNow_158 : decode cX13_inspectNow 158 = .ok (.ifCond .eq 29, 3) := by decide +kernel
theorem dX13_inspectNow_161 : decode cX13_inspectNow 161 = .ok (.iinc 7 1, 3) := by decide +kernel
theorem dX13_inspectNow_164 : decode cX13_inspectNow 164 = .ok (.aload_n 0, 1) := by decide +kernel
theorem dX13_inspectNow_165 : decode cX13_inspectNow 165 = .ok (.iload_n 1, 1) := by decide +kernel
theorem dX13_inspectNow_166 : decode cX13_inspectNow 166 = .ok (.iload 8, 2) := by decide +kernel
theorem dX13_inspectNow_168 : decode cX13_inspectNow 168 = .ok (.aload_n 0, 1) := by decide +kernel
theorem dX13_inspectNow_169 : decode cX13_inspectNow 169 = .ok (.getfield 7, 3) := by decide +kernel
theorem dX13_inspectNow_172 : decode cX13_inspectNow 172 = .ok (.iload_n 2, 1) := by decide +kernel
theorem dX13_inspectNow_173 : decode cX13_inspectNow 173 = .ok (.iconst 1, 1) := by decide +kernel
theorem dX13_inspectNow_174 : decode cX13_inspectNow 174 = .ok (.iadd, 1) := by decide +kernel
theorem dX13_inspectNow_175 : decode cX13_inspectNow 175 = .ok (.iaload, 1) := by decide +kernel
theorem dX13_inspectNow_176 : decode cX13_inspectNow 176 = .ok (.invokevirtual 227, 3) := by decide +kernel
theorem dX13_inspectNow_179 : decode cX13_inspectNow 179 = .ok (.aload_n 0, 1) := by decide +kernel
theorem dX13_inspectNow_180 : decode cX13_inspectNow 180 = .ok (.iload_n 1, 1) := by decide +kernel
theorem dX13_inspectNow_181 : decode cX13_inspectNow 181 = .ok (.iload 8, 2) := by decide +kernel
theorem dX13_inspectNow_183 : decode cX13_inspectNow 183 = .ok (.iconst 1, 1) := by decide +kernel
theorem dX13_inspectNow_184 : decode cX13_inspectNow 184 = .ok (.invokevirtual 187, 3) := by decide +kernel
theorem dX13_inspectNow_187 : decode cX13_inspectNow 187 = .ok (.iinc 8 1, 3) := by decide +kernel
theorem dX13_inspectNow_190 : decode cX13_inspectNow 190 = .ok (.goto (-59), 3) := by decide +kernel
theorem dX13_inspectNow_193 : decode cX13_inspectNow 193 = .ok (.aload_n 0, 1) := by decide +kernel
theorem dX13_inspectNow_194 : decode cX13_inspectNow 194 = .ok (.getfield 7, 3) := by decide +kernel
theorem dX13_inspectNow_197 : decode cX13_inspectNow 197 = .ok (.iload_n 1, 1) := by decide +kernel
theorem dX13_inspectNow_198 : decode cX13_inspectNow 198 = .ok (.iconst 2, 1) := by decide +kernel
theorem dX13_inspectNow_199 : decode cX13_inspectNow 199 = .ok (.invokestatic 72, 3) := by decide +kernel
theorem dX13_inspectNow_202 : decode cX13_inspectNow 202 = .ok (.iload 7, 2) := by decide +kernel
theorem dX13_inspectNow_204 : decode cX13_inspectNow 204 = .ok (.iload 6, 2) := by decide +kernel
theorem dX13_inspectNow_206 : decode cX13_inspectNow 206 = .ok (.if_icmp .le 7, 3) := by decide +kernel
theorem dX13_inspectNow_209 : decode cX13_inspectNow 209 = .ok (.iconst 2, 1) := by decide +kernel
theorem dX13_inspectNow_210 : decode cX13_inspectNow 210 = .ok (.goto 4, 3) := by decide +kernel
theorem dX13_inspectNow_213 : decode cX13_inspectNow 213 = .ok (.iconst 1, 1) := by decide +kernel
theorem dX13_inspectNow_214 : decode cX13_inspectNow 214 = .ok (.iastore, 1) := by decide +kernel
theorem dX13_inspectNow_215 : decode cX13_inspectNow 215 = .ok (.aload_n 0, 1) := by decide +kernel
theorem dX13_inspectNow_216 : decode cX13_inspectNow 216 = .ok (.getfield 7, 3) := by decide +kernel
theorem dX13_inspectNow_219 : decode cX13_inspectNow 219 = .ok (.iload_n 1, 1) := by decide +kernel
theorem dX13_inspectNow_220 : decode cX13_inspectNow 220 = .ok (.iconst 4, 1) := by decide +kernel
theorem dX13_inspectNow_221 : decode cX13_inspectNow 221 = .ok (.invokestatic 72, 3) := by decide +kernel
theorem dX13_inspectNow_224 : decode cX13_inspectNow 224 = .ok (.iload_n 3, 1) := by decide +kernel
theorem dX13_inspectNow_225 : decode cX13_inspectNow 225 = .ok (.iastore, 1) := by decide +kernel
theorem dX13_inspectNow_226 : decode cX13_inspectNow 226 = .ok (.aload_n 0, 1) := by decide +kernel
theorem dX13_inspectNow_227 : decode cX13_inspectNow 227 = .ok (.getfield 7, 3) := by decide +kernel
theorem dX13_inspectNow_230 : decode cX13_inspectNow 230 = .ok (.iload_n 1, 1) := by decide +kernel
theorem dX13_inspectNow_231 : decode cX13_inspectNow 231 = .ok (.iconst 5, 1) := by decide +kernel
theorem dX13_inspectNow_232 : decode cX13_inspectNow 232 = .ok (.invokestatic 72, 3) := by decide +kernel
theorem dX13_inspectNow_235 : decode cX13_inspectNow 235 = .ok (.iload 5, 2) := by decide +kernel
theorem dX13_inspectNow_237 : decode cX13_inspectNow 237 = .ok (.iastore, 1) := by decide +kernel
theorem dX13_inspectNow_238 : decode cX13_inspectNow 238 = .ok (.aload_n 0, 1) := by decide +kernel
theorem dX13_inspectNow_239 : decode cX13_inspectNow 239 = .ok (.getfield 7, 3) := by decide +kernel
theorem dX13_inspectNow_242 : decode cX13_inspectNow 242 = .ok (.iload_n 1, 1) := by decide +kernel
theorem dX13_inspectNow_243 : decode cX13_inspectNow 243 = .ok (.bipush 6, 2) := by decide +kernel
theorem dX13_inspectNow_245 : decode cX13_inspectNow 245 = .ok (.invokestatic 72, 3) := by decide +kernel
theorem dX13_inspectNow_248 : decode cX13_inspectNow 248 = .ok (.iload 6, 2) := by decide +kernel
theorem dX13_inspectNow_250 : decode cX13_inspectNow 250 = .ok (.iastore, 1) := by decide +kernel
theorem dX13_inspectNow_251 : decode cX13_inspectNow 251 = .ok (.aload_n 0, 1) := by decide +kernel
theorem dX13_inspectNow_252 : decode cX13_inspectNow 252 = .ok (.getfield 7, 3) := by decide +kernel
theorem dX13_inspectNow_255 : decode cX13_inspectNow 255 = .ok (.iload_n 1, 1) := by decide +kernel
theorem dX13_inspectNow_256 : decode cX13_inspectNow 256 = .ok (.bipush 7, 2) := by decide +kernel
theorem dX13_inspectNow_258 : decode cX13_inspectNow 258 = .ok (.invokestatic 72, 3) := by decide +kernel
theorem dX13_inspectNow_261 : decode cX13_inspectNow 261 = .ok (.iload 7, 2) := by decide +kernel
theorem dX13_inspectNow_263 : decode cX13_inspectNow 263 = .ok (.iastore, 1) := by decide +kernel
theorem dX13_inspectNow_264 : decode cX13_inspectNow 264 = .ok (.aload_n 0, 1) := by decide +kernel
theorem dX13_inspectNow_265 : decode cX13_inspectNow 265 = .ok (.getfield 7, 3) := by decide +kernel
theorem dX13_inspectNow_268 : decode cX13_inspectNow 268 = .ok (.iload_n 1, 1) := by decide +kernel
theorem dX13_inspectNow_269 : decode cX13_inspectNow 269 = .ok (.iconst 3, 1) := by decide +kernel
theorem dX13_inspectNow_270 : decode cX13_inspectNow 270 = .ok (.invokestatic 72, 3) := by decide +kernel
theorem dX13_inspectNow_273 : decode cX13_inspectNow 273 = .ok (.iaload, 1) := by decide +kernel
theorem dX13_inspectNow_274 : decode cX13_inspectNow 274 = .ok (.ifCond .ne 40, 3) := by decide +kernel
theorem dX13_inspectNow_277 : decode cX13_inspectNow 277 = .ok (.aload_n 0, 1) := by decide +kernel
theorem dX13_inspectNow_278 : decode cX13_inspectNow 278 = .ok (.getfield 7, 3) := by decide +kernel
theorem dX13_inspectNow_281 : decode cX13_inspectNow 281 = .ok (.iload_n 2, 1) := by decide +kernel
theorem dX13_inspectNow_282 : decode cX13_inspectNow 282 = .ok (.bipush 8, 2) := by decide +kernel
theorem dX13_inspectNow_284 : decode cX13_inspectNow 284 = .ok (.iadd, 1) := by decide +kernel
theorem dX13_inspectNow_285 : decode cX13_inspectNow 285 = .ok (.dup2, 1) := by decide +kernel
theorem dX13_inspectNow_286 : decode cX13_inspectNow 286 = .ok (.iaload, 1) := by decide +kernel
theorem dX13_inspectNow_287 : decode cX13_inspectNow 287 = .ok (.iload 5, 2) := by decide +kernel
theorem dX13_inspectNow_289 : decode cX13_inspectNow 289 = .ok (.iadd, 1) := by decide +kernel
theorem dX13_inspectNow_290 : decode cX13_inspectNow 290 = .ok (.iastore, 1) := by decide +kernel
theorem dX13_inspectNow_291 : decode cX13_inspectNow 291 = .ok (.aload_n 0, 1) := by decide +kernel
theorem dX13_inspectNow_292 : decode cX13_inspectNow 292 = .ok (.getfield 7, 3) := by decide +kernel
theorem dX13_inspectNow_295 : decode cX13_inspectNow 295 = .ok (.iload_n 2, 1) := by decide +kernel
theorem dX13_inspectNow_296 : decode cX13_inspectNow 296 = .ok (.bipush 9, 2) := by decide +kernel
theorem dX13_inspectNow_298 : decode cX13_inspectNow 298 = .ok (.iadd, 1) := by decide +kernel
theorem dX13_inspectNow_299 : decode cX13_inspectNow 299 = .ok (.dup2, 1) := by decide +kernel
theorem dX13_inspectNow_300 : decode cX13_inspectNow 300 = .ok (.iaload, 1) := by decide +kernel
theorem dX13_inspectNow_301 : decode cX13_inspectNow 301 = .ok (.iload 7, 2) := by decide +kernel
theorem dX13_inspectNow_303 : decode cX13_inspectNow 303 = .ok (.iadd, 1) := by decide +kernel
theorem dX13_inspectNow_304 : decode cX13_inspectNow 304 = .ok (.iastore, 1) := by decide +kernel
theorem dX13_inspectNow_305 : decode cX13_inspectNow 305 = .ok (.aload_n 0, 1) := by decide +kernel
theorem dX13_inspectNow_306 : decode cX13_inspectNow 306 = .ok (.iload_n 2, 1) := by decide +kernel
theorem dX13_inspectNow_307 : decode cX13_inspectNow 307 = .ok (.iload 7, 2) := by decide +kernel
theorem dX13_inspectNow_309 : decode cX13_inspectNow 309 = .ok (.iload 6, 2) := by decide +kernel
theorem dX13_inspectNow_311 : decode cX13_inspectNow 311 = .ok (.invokevirtual 230, 3) := by decide +kernel
theorem dX13_inspectNow_314 : decode cX13_inspectNow 314 = .ok (.aload_n 0, 1) := by decide +kernel
theorem dX13_inspectNow_315 : decode cX13_inspectNow 315 = .ok (.getfield 7, 3) := by decide +kernel
theorem dX13_inspectNow_318 : decode cX13_inspectNow 318 = .ok (.iload_n 1, 1) := by decide +kernel
theorem dX13_inspectNow_319 : decode cX13_inspectNow 319 = .ok (.iconst 3, 1) := by decide +kernel
theorem dX13_inspectNow_320 : decode cX13_inspectNow 320 = .ok (.invokestatic 72, 3) := by decide +kernel
theorem dX13_inspectNow_323 : decode cX13_inspectNow 323 = .ok (.dup2, 1) := by decide +kernel
theorem dX13_inspectNow_324 : decode cX13_inspectNow 324 = .ok (.iaload, 1) := by decide +kernel
theorem dX13_inspectNow_325 : decode cX13_inspectNow 325 = .ok (.iconst 1, 1) := by decide +kernel
theorem dX13_inspectNow_326 : decode cX13_inspectNow 326 = .ok (.iadd, 1) := by decide +kernel
theorem dX13_inspectNow_327 : decode cX13_inspectNow 327 = .ok (.iastore, 1) := by decide +kernel
theorem dX13_inspectNow_328 : decode cX13_inspectNow 328 = .ok (.iload 7, 2) := by decide +kernel
theorem dX13_inspectNow_330 : decode cX13_inspectNow 330 = .ok (.ireturn, 1) := by decide +kernel
theorem dX13_inspect_0 : decode cX13_inspect 0 = .ok (.aload_n 0, 1) := by decide +kernel
theorem dX13_inspect_1 : decode cX13_inspect 1 = .ok (.aload_n 0, 1) := by decide +kernel
theorem dX13_inspect_2 : decode cX13_inspect 2 = .ok (.iload_n 1, 1) := by decide +kernel
theorem dX13_inspect_3 : decode cX13_inspect 3 = .ok (.invokevirtual 233, 3) := by decide +kernel
theorem dX13_inspect_6 : decode cX13_inspect 6 = .ok (.putfield 54, 3) := by decide +kernel
theorem dX13_inspect_9 : decode cX13_inspect 9 = .ok (.aload_n 0, 1) := by decide +kernel
theorem dX13_inspect_10 : decode cX13_inspect 10 = .ok (.getfield 54, 3) := by decide +kernel
theorem dX13_inspect_13 : decode cX13_inspect 13 = .ok (.ifCond .le 5, 3) := by decide +kernel
theorem dX13_inspect_16 : decode cX13_inspect 16 = .ok (.iconst 0, 1) := by decide +kernel
theorem dX13_inspect_17 : decode cX13_inspect 17 = .ok (.ireturn, 1) := by decide +kernel
theorem dX13_inspect_18 : decode cX13_inspect 18 = .ok (.aload_n 0, 1) := by decide +kernel
theorem dX13_inspect_19 : decode cX13_inspect 19 = .ok (.aload_n 0, 1) := by decide +kernel
theorem dX13_inspect_20 : decode cX13_inspect 20 = .ok (.getfield 7, 3) := by decide +kernel
theorem dX13_inspect_23 : decode cX13_inspect 23 = .ok (.invokevirtual 111, 3) := by decide +kernel
theorem dX13_inspect_26 : decode cX13_inspect 26 = .ok (.aload_n 0, 1) := by decide +kernel
theorem dX13_inspect_27 : decode cX13_inspect 27 = .ok (.iload_n 1, 1) := by decide +kernel
theorem dX13_inspect_28 : decode cX13_inspect 28 = .ok (.invokevirtual 236, 3) := by decide +kernel
theorem dX13_inspect_31 : decode cX13_inspect 31 = .ok (.ireturn, 1) := by decide +kernel
theorem dX13_repairsUnit_0 : decode cX13_repairsUnit 0 = .ok (.aload_n 0, 1) := by decide +kernel
theorem dX13_repairsUnit_1 : decode cX13_repairsUnit 1 = .ok (.iload_n 1, 1) := by decide +kernel
theorem dX13_repairsUnit_2 : decode cX13_repairsUnit 2 = .ok (.iload_n 2, 1) := by decide +kernel
theorem dX13_repairsUnit_3 : decode cX13_repairsUnit 3 = .ok (.aload_n 0, 1) := by decide +kernel
theorem dX13_repairsUnit_4 : decode cX13_repairsUnit 4 = .ok (.getfield 7, 3) := by decide +kernel
theorem dX13_repairsUnit_7 : decode cX13_repairsUnit 7 = .ok (.aload_n 0, 1) := by decide +kernel
theorem dX13_repairsUnit_8 : decode cX13_repairsUnit 8 = .ok (.iload_n 1, 1) := by decide +kernel
theorem dX13_repairsUnit_9 : decode cX13_repairsUnit 9 = .ok (.invokevirtual 90, 3) := by decide +kernel
theorem dX13_repairsUnit_12 : decode cX13_repairsUnit 12 = .ok (.iconst 2, 1) := by decide +kernel
theorem dX13_repairsUnit_13 : decode cX13_repairsUnit 13 = .ok (.iadd, 1) := by decide +kernel
theorem dX13_repairsUnit_14 : decode cX13_repairsUnit 14 = .ok (.iaload, 1) := by decide +kernel
theorem dX13_repairsUnit_15 : decode cX13_repairsUnit 15 = .ok (.invokevirtual 239, 3) := by decide +kernel
theorem dX13_repairsUnit_18 : decode cX13_repairsUnit 18 = .ok (.aload_n 0, 1) := by decide +kernel
theorem dX13_repairsUnit_19 : decode cX13_repairsUnit 19 = .ok (.getfield 7, 3) := by decide +kernel
theorem dX13_repairsUnit_22 : decode cX13_repairsUnit 22 = .ok (.iload_n 1, 1) := by decide +kernel
theorem dX13_repairsUnit_23 : decode cX13_repairsUnit 23 = .ok (.iload_n 2, 1) := by decide +kernel
theorem dX13_repairsUnit_24 : decode cX13_repairsUnit 24 = .ok (.invokestatic 84, 3) := by decide +kernel
theorem dX13_repairsUnit_27 : decode cX13_repairsUnit 27 = .ok (.dup2, 1) := by decide +kernel
theorem dX13_repairsUnit_28 : decode cX13_repairsUnit 28 = .ok (.iaload, 1) := by decide +kernel
theorem dX13_repairsUnit_29 : decode cX13_repairsUnit 29 = .ok (.bipush 16, 2) := by decide +kernel
theorem dX13_repairsUnit_31 : decode cX13_repairsUnit 31 = .ok (.iadd, 1) := by decide +kernel
theorem dX13_repairsUnit_32 : decode cX13_repairsUnit 32 = .ok (.iastore, 1) := by decide +kernel
theorem dX13_repairsUnit_33 : decode cX13_repairsUnit 33 = .ok (.aload_n 0, 1) := by decide +kernel
theorem dX13_repairsUnit_34 : decode cX13_repairsUnit 34 = .ok (.getfield 7, 3) := by decide +kernel
theorem dX13_repairsUnit_37 : decode cX13_repairsUnit 37 = .ok (.iconst 1, 1) := by decide +kernel
theorem dX13_repairsUnit_38 : decode cX13_repairsUnit 38 = .ok (.dup2, 1) := by decide +kernel
theorem dX13_repairsUnit_39 : decode cX13_repairsUnit 39 = .ok (.iaload, 1) := by decide +kernel
theorem dX13_repairsUnit_40 : decode cX13_repairsUnit 40 = .ok (.iconst 1, 1) := by decide +kernel
theorem dX13_repairsUnit_41 : decode cX13_repairsUnit 41 = .ok (.iadd, 1) := by decide +kernel
theorem dX13_repairsUnit_42 : decode cX13_repairsUnit 42 = .ok (.iastore, 1) := by decide +kernel
theorem dX13_repairsUnit_43 : decode cX13_repairsUnit 43 = .ok (.aload_n 0, 1) := by decide +kernel
theorem dX13_repairsUnit_44 : decode cX13_repairsUnit 44 = .ok (.iload_n 1, 1) := by decide +kernel
theorem dX13_repairsUnit_45 : decode cX13_repairsUnit 45 = .ok (.iload_n 2, 1) := by decide +kernel
theorem dX13_repairsUnit_46 : decode cX13_repairsUnit 46 = .ok (.iconst 0, 1) := by decide +kernel
theorem dX13_repairsUnit_47 : decode cX13_repairsUnit 47 = .ok (.invokevirtual 187, 3) := by decide +kernel
theorem dX13_repairsUnit_50 : decode cX13_repairsUnit 50 = .ok (.aload_n 0, 1) := by decide +kernel
theorem dX13_repairsUnit_51 : decode cX13_repairsUnit 51 = .ok (.getfield 7, 3) := by decide +kernel
theorem dX13_repairsUnit_54 : decode cX13_repairsUnit 54 = .ok (.iconst 1, 1) := by decide +kernel
theorem dX13_repairsUnit_55 : decode cX13_repairsUnit 55 = .ok (.iaload, 1) := by decide +kernel
theorem dX13_repairsUnit_56 : decode cX13_repairsUnit 56 = .ok (.bipush 7, 2) := by decide +kernel
theorem dX13_repairsUnit_58 : decode cX13_repairsUnit 58 = .ok (.irem, 1) := by decide +kernel
theorem dX13_repairsUnit_59 : decode cX13_repairsUnit 59 = .ok (.ifCond .ne 11, 3) := by decide +kernel
theorem dX13_repairsUnit_62 : decode cX13_repairsUnit 62 = .ok (.aload_n 0, 1) := by decide +kernel
theorem dX13_repairsUnit_63 : decode cX13_repairsUnit 63 = .ok (.iload_n 1, 1) := by decide +kernel
theorem dX13_repairsUnit_64 : decode cX13_repairsUnit 64 = .ok (.iload_n 2, 1) := by decide +kernel
theorem dX13_repairsUnit_65 : decode cX13_repairsUnit 65 = .ok (.iconst 3, 1) := by decide +kernel
theorem dX13_repairsUnit_66 : decode cX13_repairsUnit 66 = .ok (.iconst 2, 1) := by decide +kernel
theorem dX13_repairsUnit_67 : decode cX13_repairsUnit 67 = .ok (.invokevirtual 100, 3) := by decide +kernel
theorem dX13_repairsUnit_70 : decode cX13_repairsUnit 70 = .ok (.return_, 1) := by decide +kernel
theorem dX13_againstSort_0 : decode cX13_againstSort 0 = .ok (.aload_n 0, 1) := by decide +kernel
theorem dX13_againstSort_1 : decode cX13_againstSort 1 = .ok (.iload_n 1, 1) := by decide +kernel
theorem dX13_againstSort_2 : decode cX13_againstSort 2 = .ok (.invokevirtual 76, 3) := by decide +kernel
theorem dX13_againstSort_5 : decode cX13_againstSort 5 = .ok (.ifCond .eq 25, 3) := by decide +kernel
theorem dX13_againstSort_8 : decode cX13_againstSort 8 = .ok (.aload_n 0, 1) := by decide +kernel
theorem dX13_againstSort_9 : decode cX13_againstSort 9 = .ok (.getfield 7, 3) := by decide +kernel
theorem dX13_againstSort_12 : decode cX13_againstSort 12 = .ok (.iload_n 1, 1) := by decide +kernel
theorem dX13_againstSort_13 : decode cX13_againstSort 13 = .ok (.iconst 2, 1) := by decide +kernel
theorem dX13_againstSort_14 : decode cX13_againstSort 14 = .ok (.invokestatic 72, 3) := by decide +kernel
theorem dX13_againstSort_17 : decode cX13_againstSort 17 = .ok (.iaload, 1) := by decide +kernel
theorem dX13_againstSort_18 : decode cX13_againstSort 18 = .ok (.iconst 2, 1) := by decide +kernel
theorem dX13_againstSort_19 : decode cX13_againstSort 19 = .ok (.if_icmp .ne 7, 3) := by decide +kernel
theorem dX13_againstSort_22 : decode cX13_againstSort 22 = .ok (.iconst 0, 1) := by decide +kernel
theorem dX13_againstSort_23 : decode cX13_againstSort 23 = .ok (.goto 8, 3) := by decide +kernel
theorem dX13_againstSort_26 : decode cX13_againstSort 26 = .ok (.iconst 2, 1) := by decide +kernel
theorem dX13_againstSort_27 : decode cX13_againstSort 27 = .ok (.goto 4, 3) := by decide +kernel
theorem dX13_againstSort_30 : decode cX13_againstSort 30 = .ok (.iconst 1, 1) := by decide +kernel
theorem dX13_againstSort_31 : decode cX13_againstSort 31 = .ok (.ireturn, 1) := by decide +kernel
theorem dX13_sortNow_0 : decode cX13_sortNow 0 = .ok (.aload_n 0, 1) := by decide +kernel
theorem dX13_sortNow_1 : decode cX13_sortNow 1 = .ok (.iload_n 1, 1) := by decide +kernel
theorem dX13_sortNow_2 : decode cX13_sortNow 2 = .ok (.invokevirtual 90, 3) := by decide +kernel
theorem dX13_sortNow_5 : decode cX13_sortNow 5 = .ok (.istore_n 2, 1) := by decide +kernel
theorem dX13_sortNow_6 : decode cX13_sortNow 6 = .ok (.iconst 0, 1) := by decide +kernel
theorem dX13_sortNow_7 : decode cX13_sortNow 7 = .ok (.istore_n 3, 1) := by decide +kernel
theorem dX13_sortNow_8 : decode cX13_sortNow 8 = .ok (.iconst 0, 1) := by decide +kernel
theorem dX13_sortNow_9 : decode cX13_sortNow 9 = .ok (.istore 4, 2) := by decide +kernel
theorem dX13_sortNow_11 : decode cX13_sortNow 11 = .ok (.iload 4, 2) := by decide +kernel
theorem dX13_sortNow_13 : decode cX13_sortNow 13 = .ok (.aload_n 0, 1) := by decide +kernel
theorem dX13_sortNow_14 : decode cX13_sortNow 14 = .ok (.iload_n 1, 1) := by decide +kernel
theorem dX13_sortNow_15 : decode cX13_sortNow 15 = .ok (.invokevirtual 80, 3) := by decide +kernel
theorem dX13_sortNow_18 : decode cX13_sortNow 18 = .ok (.if_icmp .ge 137, 3) := by decide +kernel
theorem dX13_sortNow_21 : decode cX13_sortNow 21 = .ok (.aload_n 0, 1) := by decide +kernel
theorem dX13_sortNow_22 : decode cX13_sortNow 22 = .ok (.iload_n 1, 1) := by decide +kernel
theorem dX13_sortNow_23 : decode cX13_sortNow 23 = .ok (.iload 4, 2) := by decide +kernel
theorem dX13_sortNow_25 : decode cX13_sortNow 25 = .ok (.invokevirtual 93, 3) := by decide +kernel
theorem dX13_sortNow_28 : decode cX13_sortNow 28 = .ok (.ifCond .ne 17, 3) := by decide +kernel
theorem dX13_sortNow_31 : decode cX13_sortNow 31 = .ok (.aload_n 0, 1) := by decide +kernel
theorem dX13_sortNow_32 : decode cX13_sortNow 32 = .ok (.iload_n 1, 1) := by decide +kernel
theorem dX13_sortNow_33 : decode cX13_sortNow 33 = .ok (.iload 4, 2) := by decide +kernel
theorem dX13_sortNow_35 : decode cX13_sortNow 35 = .ok (.invokevirtual 96, 3) := by decide +kernel
theorem dX13_sortNow_38 : decode cX13_sortNow 38 = .ok (.ifCond .eq 7, 3) := by decide +kernel
theorem dX13_sortNow_41 : decode cX13_sortNow 41 = .ok (.iconst 1, 1) := by decide +kernel
theorem dX13_sortNow_42 : decode cX13_sortNow 42 = .ok (.goto 4, 3) := by decide +kernel
theorem dX13_sortNow_45 : decode cX13_sortNow 45 = .ok (.iconst 0, 1) := by decide +kernel
theorem dX13_sortNow_46 : decode cX13_sortNow 46 = .ok (.istore 5, 2) := by decide +kernel
theorem dX13_sortNow_48 : decode cX13_sortNow 48 = .ok (.iload 5, 2) := by decide +kernel
theorem dX13_sortNow_50 : decode cX13_sortNow 50 = .ok (.ifCond .eq 18, 3) := by decide +kernel
theorem dX13_sortNow_53 : decode cX13_sortNow 53 = .ok (.aload_n 0, 1) := by decide +kernel
theorem dX13_sortNow_54 : decode cX13_sortNow 54 = .ok (.iload_n 1, 1) := by decide +kernel
theorem dX13_sortNow_55 : decode cX13_sortNow 55 = .ok (.iload 4, 2) := by decide +kernel
theorem dX13_sortNow_57 : decode cX13_sortNow 57 = .ok (.aload_n 0, 1) := by decide +kernel
theorem dX13_sortNow_58 : decode cX13_sortNow 58 = .ok (.getfield 7, 3) := by decide +kernel
theorem dX13_sortNow_61 : decode cX13_sortNow 61 = .ok (.iload_n 2, 1) := by decide +kernel
theorem dX13_sortNow_62 : decode cX13_sortNow 62 = .ok (.iconst 1, 1) := by decide +kernel
theorem dX13_sortNow_63 : decode cX13_sortNow 63 = .ok (.iadd, 1) := by decide +kernel
theorem dX13_sortNow_64 : decode cX13_sortNow 64 = .ok (.iaload, 1) := by decide +kernel
theorem dX13_sortNow_65 : decode cX13_sortNow 65 = .ok (.invokevirtual 227, 3) := by decide +kernel
theorem dX13_sortNow_68 : decode cX13_sortNow 68 = .ok (.iload 5, 2) := by decide +kernel
theorem dX13_sortNow_70 : decode cX13_sortNow 70 = .ok (.ifCond .ne 17, 3) := by decide +kernel
theorem dX13_sortNow_73 : decode cX13_sortNow 73 = .ok (.aload_n 0, 1) := by decide +kernel
theorem dX13_sortNow_74 : decode cX13_sortNow 74 = .ok (.iload_n 1, 1) := by decide +kernel
theorem dX13_sortNow_75 : decode cX13_sortNow 75 = .ok (.iload 4, 2) := by decide +kernel
theorem dX13_sortNow_77 : decode cX13_sortNow 77 = .ok (.invokevirtual 93, 3) := by decide +kernel
theorem dX13_sortNow_80 : decode cX13_sortNow 80 = .ok (.iconst 1, 1) := by decide +kernel
theorem dX13_sortNow_81 : decode cX13_sortNow 81 = .ok (.if_icmp .eq 6, 3) := by decide +kernel
theorem dX13_sortNow_84 : decode cX13_sortNow 84 = .ok (.goto 65, 3) := by decide +kernel
theorem dX13_sortNow_87 : decode cX13_sortNow 87 = .ok (.aload_n 0, 1) := by decide +kernel
theorem dX13_sortNow_88 : decode cX13_sortNow 88 = .ok (.iload_n 1, 1) := by decide +kernel
theorem dX13_sortNow_89 : decode cX13_sortNow 89 = .ok (.iload 4, 2) := by decide +kernel
theorem dX13_sortNow_91 : decode cX13_sortNow 91 = .ok (.invokevirtual 87, 3) := by decide +kernel
theorem dX13_sortNow_94 : decode cX13_sortNow 94 = .ok (.aload_n 0, 1) := by decide +kernel
theorem dX13_sortNow_95 : decode cX13_sortNow 95 = .ok (.getfield 7, 3) := by decide +kernel
theorem dX13_sortNow_98 : decode cX13_sortNow 98 = .ok (.iload_n 2, 1) := by decide +kernel
theorem dX13_sortNow_99 : decode cX13_sortNow 99 = .ok (.iconst 1, 1) := by decide +kernel
theorem dX13_sortNow_100 : decode cX13_sortNow 100 = .ok (.iadd, 1) := by decide +kernel
theorem dX13_sortNow_101 : decode cX13_sortNow 101 = .ok (.iaload, 1) := by decide +kernel
theorem dX13_sortNow_102 : decode cX13_sortNow 102 = .ok (.iand, 1) := by decide +kernel
theorem dX13_sortNow_103 : decode cX13_sortNow 103 = .ok (.aload_n 0, 1) := by decide +kernel
theorem dX13_sortNow_104 : decode cX13_sortNow 104 = .ok (.getfield 7, 3) := by decide +kernel
theorem dX13_sortNow_107 : decode cX13_sortNow 107 = .ok (.iload_n 2, 1) := by decide +kernel
theorem dX13_sortNow_108 : decode cX13_sortNow 108 = .ok (.iconst 2, 1) := by decide +kernel
theorem dX13_sortNow_109 : decode cX13_sortNow 109 = .ok (.iadd, 1) := by decide +kernel
theorem dX13_sortNow_110 : decode cX13_sortNow 110 = .ok (.iaload, 1) := by decide +kernel
theorem dX13_sortNow_111 : decode cX13_sortNow 111 = .ok (.iconst (-1), 1) := by decide +kernel
theorem dX13_sortNow_112 : decode cX13_sortNow 112 = .ok (.ixor, 1) := by decide +kernel
theorem dX13_sortNow_113 : decode cX13_sortNow 113 = .ok (.iand, 1) := by decide +kernel
theorem dX13_sortNow_114 : decode cX13_sortNow 114 = .ok (.ifCond .ne 24, 3) := by decide +kernel
theorem dX13_sortNow_117 : decode cX13_sortNow 117 = .ok (.aload_n 0, 1) := by decide +kernel
theorem dX13_sortNow_118 : decode cX13_sortNow 118 = .ok (.iload_n 1, 1) := by decide +kernel
theorem dX13_sortNow_119 : decode cX13_sortNow 119 = .ok (.iload 4, 2) := by decide +kernel
theorem dX13_sortNow_121 : decode cX13_sortNow 121 = .ok (.invokevirtual 242, 3) := by decide +kernel
theorem dX13_sortNow_124 : decode cX13_sortNow 124 = .ok (.iconst 2, 1) := by decide +kernel
theorem dX13_sortNow_125 : decode cX13_sortNow 125 = .ok (.if_icmp .ge 13, 3) := by decide +kernel
theorem dX13_sortNow_128 : decode cX13_sortNow 128 = .ok (.aload_n 0, 1) := by decide +kernel
theorem dX13_sortNow_129 : decode cX13_sortNow 129 = .ok (.iload_n 1, 1) := by decide +kernel
theorem dX13_sortNow_130 : decode cX13_sortNow 130 = .ok (.iload 4, 2) := by decide +kernel
theorem dX13_sortNow_132 : decode cX13_sortNow 132 = .ok (.invokevirtual 245, 3) := by decide +kernel
theorem dX13_sortNow_135 : decode cX13_sortNow 135 = .ok (.goto 14, 3) := by decide +kernel
theorem dX13_sortNow_138 : decode cX13_sortNow 138 = .ok (.aload_n 0, 1) := by decide +kernel
theorem dX13_sortNow_139 : decode cX13_sortNow 139 = .ok (.iload_n 1, 1) := by decide +kernel
theorem dX13_sortNow_140 : decode cX13_sortNow 140 = .ok (.iload 4, 2) := by decide +kernel
theorem dX13_sortNow_142 : decode cX13_sortNow 142 = .ok (.iconst 2, 1) := by decide +kernel
theorem dX13_sortNow_143 : decode cX13_sortNow 143 = .ok (.invokevirtual 187, 3) := by decide +kernel
theorem dX13_sortNow_146 : decode cX13_sortNow 146 = .ok (.iinc 3 1, 3) := by decide +kernel
theorem dX13_sortNow_149 : decode cX13_sortNow 149 = .ok (.iinc 4 1, 3) := by decide +kernel
theorem dX13_sortNow_152 : decode cX13_sortNow 152 = .ok (.goto (-141), 3) := by decide +kernel
theorem dX13_sortNow_155 : decode cX13_sortNow 155 = .ok (.aload_n 0, 1) := by decide +kernel
theorem dX13_sortNow_156 : decode cX13_sortNow 156 = .ok (.getfield 7, 3) := by decide +kernel
theorem dX13_sortNow_159 : decode cX13_sortNow 159 = .ok (.iload_n 1, 1) := by decide +kernel
theorem dX13_sortNow_160 : decode cX13_sortNow 160 = .ok (.iconst 2, 1) := by decide +kernel
theorem dX13_sortNow_161 : decode cX13_sortNow 161 = .ok (.invokestatic 72, 3) := by decide +kernel
theorem dX13_sortNow_164 : decode cX13_sortNow 164 = .ok (.iconst 0, 1) := by decide +kernel
theorem dX13_sortNow_165 : decode cX13_sortNow 165 = .ok (.iastore, 1) := by decide +kernel
theorem dX13_sortNow_166 : decode cX13_sortNow 166 = .ok (.iload_n 3, 1) := by decide +kernel
theorem dX13_sortNow_167 : decode cX13_sortNow 167 = .ok (.ireturn, 1) := by decide +kernel
theorem dX13_sort_0 : decode cX13_sort 0 = .ok (.aload_n 0, 1) := by decide +kernel
theorem dX13_sort_1 : decode cX13_sort 1 = .ok (.aload_n 0, 1) := by decide +kernel
theorem dX13_sort_2 : decode cX13_sort 2 = .ok (.iload_n 1, 1) := by decide +kernel
theorem dX13_sort_3 : decode cX13_sort 3 = .ok (.invokevirtual 248, 3) := by decide +kernel
theorem dX13_sort_6 : decode cX13_sort 6 = .ok (.putfield 54, 3) := by decide +kernel
theorem dX13_sort_9 : decode cX13_sort 9 = .ok (.aload_n 0, 1) := by decide +kernel
theorem dX13_sort_10 : decode cX13_sort 10 = .ok (.getfield 54, 3) := by decide +kernel
theorem dX13_sort_13 : decode cX13_sort 13 = .ok (.ifCond .le 5, 3) := by decide +kernel
theorem dX13_sort_16 : decode cX13_sort 16 = .ok (.iconst 0, 1) := by decide +kernel
theorem dX13_sort_17 : decode cX13_sort 17 = .ok (.ireturn, 1) := by decide +kernel
theorem dX13_sort_18 : decode cX13_sort 18 = .ok (.aload_n 0, 1) := by decide +kernel
theorem dX13_sort_19 : decode cX13_sort 19 = .ok (.aload_n 0, 1) := by decide +kernel
theorem dX13_sort_20 : decode cX13_sort 20 = .ok (.getfield 7, 3) := by decide +kernel
theorem dX13_sort_23 : decode cX13_sort 23 = .ok (.invokevirtual 111, 3) := by decide +kernel
theorem dX13_sort_26 : decode cX13_sort 26 = .ok (.aload_n 0, 1) := by decide +kernel
theorem dX13_sort_27 : decode cX13_sort 27 = .ok (.iload_n 1, 1) := by decide +kernel
theorem dX13_sort_28 : decode cX13_sort 28 = .ok (.invokevirtual 251, 3) := by decide +kernel
theorem dX13_sort_31 : decode cX13_sort 31 = .ok (.ireturn, 1) := by decide +kernel
theorem dX13_againstShip_0 : decode cX13_againstShip 0 = .ok (.aload_n 0, 1) := by decide +kernel
theorem dX13_againstShip_1 : decode cX13_againstShip 1 = .ok (.iload_n 1, 1) := by decide +kernel
theorem dX13_againstShip_2 : decode cX13_againstShip 2 = .ok (.invokevirtual 76, 3) := by decide +kernel
theorem dX13_againstShip_5 : decode cX13_againstShip 5 = .ok (.ifCond .eq 34, 3) := by decide +kernel
theorem dX13_againstShip_8 : decode cX13_againstShip 8 = .ok (.aload_n 0, 1) := by decide +kernel
theorem dX13_againstShip_9 : decode cX13_againstShip 9 = .ok (.getfield 7, 3) := by decide +kernel
theorem dX13_againstShip_12 : decode cX13_againstShip 12 = .ok (.iload_n 1, 1) := by decide +kernel
theorem dX13_againstShip_13 : decode cX13_againstShip 13 = .ok (.iconst 2, 1) := by decide +kernel
theorem dX13_againstShip_14 : decode cX13_againstShip 14 = .ok (.invokestatic 72, 3) := by decide +kernel
theorem dX13_againstShip_17 : decode cX13_againstShip 17 = .ok (.iaload, 1) := by decide +kernel
theorem dX13_againstShip_18 : decode cX13_againstShip 18 = .ok (.iconst 1, 1) := by decide +kernel
theorem dX13_againstShip_19 : decode cX13_againstShip 19 = .ok (.if_icmp .ne 12, 3) := by decide +kernel
theorem dX13_againstShip_22 : decode cX13_againstShip 22 = .ok (.aload_n 0, 1) := by decide +kernel
theorem dX13_againstShip_23 : decode cX13_againstShip 23 = .ok (.iload_n 1, 1) := by decide +kernel
theorem dX13_againstShip_24 : decode cX13_againstShip 24 = .ok (.iconst 0, 1) := by decide +kernel
theorem dX13_againstShip_25 : decode cX13_againstShip 25 = .ok (.invokevirtual 175, 3) := by decide +kernel
theorem dX13_againstShip_28 : decode cX13_againstShip 28 = .ok (.ifCond .ne 7, 3) := by decide +kernel
theorem dX13_againstShip_31 : decode cX13_againstShip 31 = .ok (.iconst 2, 1) := by decide +kernel
theorem dX13_againstShip_32 : decode cX13_againstShip 32 = .ok (.goto 8, 3) := by decide +kernel
theorem dX13_againstShip_35 : decode cX13_againstShip 35 = .ok (.iconst 0, 1) := by decide +kernel
theorem dX13_againstShip_36 : decode cX13_againstShip 36 = .ok (.goto 4, 3) := by decide +kernel
theorem dX13_againstShip_39 : decode cX13_againstShip 39 = .ok (.iconst 1, 1) := by decide +kernel
theorem dX13_againstShip_40 : decode cX13_againstShip 40 = .ok (.ireturn, 1) := by decide +kernel
theorem dX13_shipNow_0 : decode cX13_shipNow 0 = .ok (.iconst 0, 1) := by decide +kernel
theorem dX13_shipNow_1 : decode cX13_shipNow 1 = .ok (.istore_n 2, 1) := by decide +kernel
theorem dX13_shipNow_2 : decode cX13_shipNow 2 = .ok (.iconst 0, 1) := by decide +kernel
theorem dX13_shipNow_3 : decode cX13_shipNow 3 = .ok (.istore_n 3, 1) := by decide +kernel
theorem dX13_shipNow_4 : decode cX13_shipNow 4 = .ok (.iload_n 3, 1) := by decide +kernel
theorem dX13_shipNow_5 : decode cX13_shipNow 5 = .ok (.aload_n 0, 1) := by decide +kernel
theorem dX13_shipNow_6 : decode cX13_shipNow 6 = .ok (.iload_n 1, 1) := by decide +kernel
theorem dX13_shipNow_7 : decode cX13_shipNow 7 = .ok (.invokevirtual 80, 3) := by decide +kernel
theorem dX13_shipNow_10 : decode cX13_shipNow 10 = .ok (.if_icmp .ge 28, 3) := by decide +kernel
theorem dX13_shipNow_13 : decode cX13_shipNow 13 = .ok (.aload_n 0, 1) := by decide +kernel
theorem dX13_shipNow_14 : decode cX13_shipNow 14 = .ok (.iload_n 1, 1) := by decide +kernel
theorem dX13_shipNow_15 : decode cX13_shipNow 15 = .ok (.iload_n 3, 1) := by decide +kernel
theorem dX13_shipNow_16 : decode cX13_shipNow 16 = .ok (.invokevirtual 93, 3) := by decide +kernel
theorem dX13_shipNow_19 : decode cX13_shipNow 19 = .ok (.ifCond .ne 13, 3) := by decide +kernel
theorem dX13_shipNow_22 : decode cX13_shipNow 22 = .ok (.aload_n 0, 1) := by decide +kernel
theorem dX13_shipNow_23 : decode cX13_shipNow 23 = .ok (.iload_n 1, 1) := by decide +kernel
theorem dX13_shipNow_24 : decode cX13_shipNow 24 = .ok (.iload_n 3, 1) := by decide +kernel
theorem dX13_shipNow_25 : decode cX13_shipNow 25 = .ok (.iconst 4, 1) := by decide +kernel
theorem dX13_shipNow_26 : decode cX13_shipNow 26 = .ok (.invokevirtual 187, 3) := by decide +kernel
theorem dX13_shipNow_29 : decode cX13_shipNow 29 = .ok (.iinc 2 1, 3) := by decide +kernel
theorem dX13_shipNow_32 : decode cX13_shipNow 32 = .ok (.iinc 3 1, 3) := by decide +kernel
theorem dX13_shipNow_35 : decode cX13_shipNow 35 = .ok (.goto (-31), 3) := by decide +kernel
theorem dX13_shipNow_38 : decode cX13_shipNow 38 = .ok (.aload_n 0, 1) := by decide +kernel
theorem dX13_shipNow_39 : decode cX13_shipNow 39 = .ok (.getfield 7, 3) := by decide +kernel
theorem dX13_shipNow_42 : decode cX13_shipNow 42 = .ok (.iload_n 1, 1) := by decide +kernel
theorem dX13_shipNow_43 : decode cX13_shipNow 43 = .ok (.iconst 2, 1) := by decide +kernel
theorem dX13_shipNow_44 : decode cX13_shipNow 44 = .ok (.invokestatic 72, 3) := by decide +kernel
theorem dX13_shipNow_47 : decode cX13_shipNow 47 = .ok (.iconst 3, 1) := by decide +kernel
theorem dX13_shipNow_48 : decode cX13_shipNow 48 = .ok (.iastore, 1) := by decide +kernel
theorem dX13_shipNow_49 : decode cX13_shipNow 49 = .ok (.iload_n 2, 1) := by decide +kernel
theorem dX13_shipNow_50 : decode cX13_shipNow 50 = .ok (.ireturn, 1) := by decide +kernel
theorem dX13_ship_0 : decode cX13_ship 0 = .ok (.aload_n 0, 1) := by decide +kernel
theorem dX13_ship_1 : decode cX13_ship 1 = .ok (.aload_n 0, 1) := by decide +kernel
theorem dX13_ship_2 : decode cX13_ship 2 = .ok (.iload_n 1, 1) := by decide +kernel
theorem dX13_ship_3 : decode cX13_ship 3 = .ok (.invokevirtual 254, 3) := by decide +kernel
theorem dX13_ship_6 : decode cX13_ship 6 = .ok (.putfield 54, 3) := by decide +kernel
theorem dX13_ship_9 : decode cX13_ship 9 = .ok (.aload_n 0, 1) := by decide +kernel
theorem dX13_ship_10 : decode cX13_ship 10 = .ok (.getfield 54, 3) := by decide +kernel
theorem dX13_ship_13 : decode cX13_ship 13 = .ok (.ifCond .le 5, 3) := by decide +kernel
theorem dX13_ship_16 : decode cX13_ship 16 = .ok (.iconst 0, 1) := by decide +kernel
theorem dX13_ship_17 : decode cX13_ship 17 = .ok (.ireturn, 1) := by decide +kernel
theorem dX13_ship_18 : decode cX13_ship 18 = .ok (.aload_n 0, 1) := by decide +kernel
theorem dX13_ship_19 : decode cX13_ship 19 = .ok (.aload_n 0, 1) := by decide +kernel
theorem dX13_ship_20 : decode cX13_ship 20 = .ok (.getfield 7, 3) := by decide +kernel
theorem dX13_ship_23 : decode cX13_ship 23 = .ok (.invokevirtual 111, 3) := by decide +kernel
theorem dX13_ship_26 : decode cX13_ship 26 = .ok (.aload_n 0, 1) := by decide +kernel
theorem dX13_ship_27 : decode cX13_ship 27 = .ok (.iload_n 1, 1) := by decide +kernel
theorem dX13_ship_28 : decode cX13_ship 28 = .ok (.invokevirtual 257, 3) := by decide +kernel
theorem dX13_ship_31 : decode cX13_ship 31 = .ok (.ireturn, 1) := by decide +kernel
theorem dX13_isComplained_0 : decode cX13_isComplained 0 = .ok (.aload_n 0, 1) := by decide +kernel
theorem dX13_isComplained_1 : decode cX13_isComplained 1 = .ok (.getfield 7, 3) := by decide +kernel
theorem dX13_isComplained_4 : decode cX13_isComplained 4 = .ok (.iload_n 1, 1) := by decide +kernel
theorem dX13_isComplained_5 : decode cX13_isComplained 5 = .ok (.iload_n 2, 1) := by decide +kernel
theorem dX13_isComplained_6 : decode cX13_isComplained 6 = .ok (.invokestatic 84, 3) := by decide +kernel
theorem dX13_isComplained_9 : decode cX13_isComplained 9 = .ok (.iaload, 1) := by decide +kernel
theorem dX13_isComplained_10 : decode cX13_isComplained 10 = .ok (.bipush 9, 2) := by decide +kernel
theorem dX13_isComplained_12 : decode cX13_isComplained 12 = .ok (.ishr, 1) := by decide +kernel
theorem dX13_isComplained_13 : decode cX13_isComplained 13 = .ok (.iconst 1, 1) := by decide +kernel
theorem dX13_isComplained_14 : decode cX13_isComplained 14 = .ok (.iand, 1) := by decide +kernel
theorem dX13_isComplained_15 : decode cX13_isComplained 15 = .ok (.iconst 1, 1) := by decide +kernel
theorem dX13_isComplained_16 : decode cX13_isComplained 16 = .ok (.if_icmp .ne 7, 3) := by decide +kernel
theorem dX13_isComplained_19 : decode cX13_isComplained 19 = .ok (.iconst 1, 1) := by decide +kernel
theorem dX13_isComplained_20 : decode cX13_isComplained 20 = .ok (.goto 4, 3) := by decide +kernel
theorem dX13_isComplained_23 : decode cX13_isComplained 23 = .ok (.iconst 0, 1) := by decide +kernel
theorem dX13_isComplained_24 : decode cX13_isComplained 24 = .ok (.ireturn, 1) := by decide +kernel
theorem dX13_complain_0 : decode cX13_complain 0 = .ok (.aload_n 0, 1) := by decide +kernel
theorem dX13_complain_1 : decode cX13_complain 1 = .ok (.aload_n 0, 1) := by decide +kernel
theorem dX13_complain_2 : decode cX13_complain 2 = .ok (.iload_n 1, 1) := by decide +kernel
theorem dX13_complain_3 : decode cX13_complain 3 = .ok (.iload_n 2, 1) := by decide +kernel
theorem dX13_complain_4 : decode cX13_complain 4 = .ok (.invokevirtual 218, 3) := by decide +kernel
theorem dX13_complain_7 : decode cX13_complain 7 = .ok (.ifCond .ne 7, 3) := by decide +kernel
theorem dX13_complain_10 : decode cX13_complain 10 = .ok (.iconst 1, 1) := by decide +kernel
theorem dX13_complain_11 : decode cX13_complain 11 = .ok (.goto 40, 3) := by decide +kernel
theorem dX13_complain_14 : decode cX13_complain 14 = .ok (.aload_n 0, 1) := by decide +kernel
theorem dX13_complain_15 : decode cX13_complain 15 = .ok (.iload_n 1, 1) := by decide +kernel
theorem dX13_complain_16 : decode cX13_complain 16 = .ok (.iload_n 2, 1) := by decide +kernel
theorem dX13_complain_17 : decode cX13_complain 17 = .ok (.invokevirtual 93, 3) := by decide +kernel
theorem dX13_complain_20 : decode cX13_complain 20 = .ok (.iconst 4, 1) := by decide +kernel
theorem dX13_complain_21 : decode cX13_complain 21 = .ok (.if_icmp .ne 12, 3) := by decide +kernel
theorem dX13_complain_24 : decode cX13_complain 24 = .ok (.aload_n 0, 1) := by decide +kernel
theorem dX13_complain_25 : decode cX13_complain 25 = .ok (.iload_n 1, 1) := by decide +kernel
theorem dX13_complain_26 : decode cX13_complain 26 = .ok (.iload_n 2, 1) := by decide +kernel
theorem dX13_complain_27 : decode cX13_complain 27 = .ok (.invokevirtual 260, 3) := by decide +kernel
theorem dX13_complain_30 : decode cX13_complain 30 = .ok (.ifCond .eq 7, 3) := by decide +kernel
theorem dX13_complain_33 : decode cX13_complain 33 = .ok (.iconst 2, 1) := by decide +kernel
theorem dX13_complain_34 : decode cX13_complain 34 = .ok (.goto 17, 3) := by decide +kernel
theorem dX13_complain_37 : decode cX13_complain 37 = .ok (.aload_n 0, 1) := by decide +kernel
theorem dX13_complain_38 : decode cX13_complain 38 = .ok (.iload_n 1, 1) := by decide +kernel
theorem dX13_complain_39 : decode cX13_complain 39 = .ok (.iload_n 2, 1) := by decide +kernel
theorem dX13_complain_40 : decode cX13_complain 40 = .ok (.invokevirtual 87, 3) := by decide +kernel
theorem dX13_complain_43 : decode cX13_complain 43 = .ok (.ifCond .ne 7, 3) := by decide +kernel
theorem dX13_complain_46 : decode cX13_complain 46 = .ok (.iconst 3, 1) := by decide +kernel
theorem dX13_complain_47 : decode cX13_complain 47 = .ok (.goto 4, 3) := by decide +kernel
theorem dX13_complain_50 : decode cX13_complain 50 = .ok (.iconst 0, 1) := by decide +kernel
theorem dX13_complain_51 : decode cX13_complain 51 = .ok (.putfield 54, 3) := by decide +kernel
theorem dX13_complain_54 : decode cX13_complain 54 = .ok (.aload_n 0, 1) := by decide +kernel
theorem dX13_complain_55 : decode cX13_complain 55 = .ok (.getfield 54, 3) := by decide +kernel
theorem dX13_complain_58 : decode cX13_complain 58 = .ok (.ifCond .le 5, 3) := by decide +kernel
theorem dX13_complain_61 : decode cX13_complain 61 = .ok (.iconst 0, 1) := by decide +kernel
theorem dX13_complain_62 : decode cX13_complain 62 = .ok (.ireturn, 1) := by decide +kernel
theorem dX13_complain_63 : decode cX13_complain 63 = .ok (.aload_n 0, 1) := by decide +kernel
theorem dX13_complain_64 : decode cX13_complain 64 = .ok (.aload_n 0, 1) := by decide +kernel
theorem dX13_complain_65 : decode cX13_complain 65 = .ok (.getfield 7, 3) := by decide +kernel
theorem dX13_complain_68 : decode cX13_complain 68 = .ok (.invokevirtual 111, 3) := by decide +kernel
theorem dX13_complain_71 : decode cX13_complain 71 = .ok (.aload_n 0, 1) := by decide +kernel
theorem dX13_complain_72 : decode cX13_complain 72 = .ok (.iload_n 1, 1) := by decide +kernel
theorem dX13_complain_73 : decode cX13_complain 73 = .ok (.iload_n 2, 1) := by decide +kernel
theorem dX13_complain_74 : decode cX13_complain 74 = .ok (.bipush 15, 2) := by decide +kernel
theorem dX13_complain_76 : decode cX13_complain 76 = .ok (.invokevirtual 227, 3) := by decide +kernel
theorem dX13_complain_79 : decode cX13_complain 79 = .ok (.aload_n 0, 1) := by decide +kernel
theorem dX13_complain_80 : decode cX13_complain 80 = .ok (.getfield 7, 3) := by decide +kernel
theorem dX13_complain_83 : decode cX13_complain 83 = .ok (.iload_n 1, 1) := by decide +kernel
theorem dX13_complain_84 : decode cX13_complain 84 = .ok (.iload_n 2, 1) := by decide +kernel
theorem dX13_complain_85 : decode cX13_complain 85 = .ok (.invokestatic 84, 3) := by decide +kernel
theorem dX13_complain_88 : decode cX13_complain 88 = .ok (.dup2, 1) := by decide +kernel
theorem dX13_complain_89 : decode cX13_complain 89 = .ok (.iaload, 1) := by decide +kernel
theorem dX13_complain_90 : decode cX13_complain 90 = .ok (.sipush 512, 3) := by decide +kernel
theorem dX13_complain_93 : decode cX13_complain 93 = .ok (.ior, 1) := by decide +kernel
theorem dX13_complain_94 : decode cX13_complain 94 = .ok (.iastore, 1) := by decide +kernel
theorem dX13_complain_95 : decode cX13_complain 95 = .ok (.aload_n 0, 1) := by decide +kernel
theorem dX13_complain_96 : decode cX13_complain 96 = .ok (.getfield 7, 3) := by decide +kernel
theorem dX13_complain_99 : decode cX13_complain 99 = .ok (.iconst 2, 1) := by decide +kernel
theorem dX13_complain_100 : decode cX13_complain 100 = .ok (.dup2, 1) := by decide +kernel
theorem dX13_complain_101 : decode cX13_complain 101 = .ok (.iaload, 1) := by decide +kernel
theorem dX13_complain_102 : decode cX13_complain 102 = .ok (.iconst 1, 1) := by decide +kernel
theorem dX13_complain_103 : decode cX13_complain 103 = .ok (.iadd, 1) := by decide +kernel
theorem dX13_complain_104 : decode cX13_complain 104 = .ok (.iastore, 1) := by decide +kernel
theorem dX13_complain_105 : decode cX13_complain 105 = .ok (.aload_n 0, 1) := by decide +kernel
theorem dX13_complain_106 : decode cX13_complain 106 = .ok (.getfield 7, 3) := by decide +kernel
theorem dX13_complain_109 : decode cX13_complain 109 = .ok (.iconst 2, 1) := by decide +kernel
theorem dX13_complain_110 : decode cX13_complain 110 = .ok (.iaload, 1) := by decide +kernel
theorem dX13_complain_111 : decode cX13_complain 111 = .ok (.ireturn, 1) := by decide +kernel
theorem dX13_lot_0 : decode cX13_lot 0 = .ok (.aload_n 0, 1) := by decide +kernel
theorem dX13_lot_1 : decode cX13_lot 1 = .ok (.aload_n 0, 1) := by decide +kernel
theorem dX13_lot_2 : decode cX13_lot 2 = .ok (.iload_n 1, 1) := by decide +kernel
theorem dX13_lot_3 : decode cX13_lot 3 = .ok (.invokevirtual 76, 3) := by decide +kernel
theorem dX13_lot_6 : decode cX13_lot 6 = .ok (.ifCond .eq 21, 3) := by decide +kernel
theorem dX13_lot_9 : decode cX13_lot 9 = .ok (.iload_n 2, 1) := by decide +kernel
theorem dX13_lot_10 : decode cX13_lot 10 = .ok (.iconst 0, 1) := by decide +kernel
theorem dX13_lot_11 : decode cX13_lot 11 = .ok (.bipush 9, 2) := by decide +kernel
theorem dX13_lot_13 : decode cX13_lot 13 = .ok (.invokestatic 68, 3) := by decide +kernel
theorem dX13_lot_16 : decode cX13_lot 16 = .ok (.ifCond .eq 7, 3) := by decide +kernel
theorem dX13_lot_19 : decode cX13_lot 19 = .ok (.iconst 0, 1) := by decide +kernel
theorem dX13_lot_20 : decode cX13_lot 20 = .ok (.goto 8, 3) := by decide +kernel
theorem dX13_lot_23 : decode cX13_lot 23 = .ok (.iconst 2, 1) := by decide +kernel
theorem dX13_lot_24 : decode cX13_lot 24 = .ok (.goto 4, 3) := by decide +kernel
theorem dX13_lot_27 : decode cX13_lot 27 = .ok (.iconst 1, 1) := by decide +kernel
theorem dX13_lot_28 : decode cX13_lot 28 = .ok (.putfield 54, 3) := by decide +kernel
theorem dX13_lot_31 : decode cX13_lot 31 = .ok (.aload_n 0, 1) := by decide +kernel
theorem dX13_lot_32 : decode cX13_lot 32 = .ok (.getfield 54, 3) := by decide +kernel
theorem dX13_lot_35 : decode cX13_lot 35 = .ok (.ifCond .le 7, 3) := by decide +kernel
theorem dX13_lot_38 : decode cX13_lot 38 = .ok (.iconst 0, 1) := by decide +kernel
theorem dX13_lot_39 : decode cX13_lot 39 = .ok (.goto 13, 3) := by decide +kernel
theorem dX13_lot_42 : decode cX13_lot 42 = .ok (.aload_n 0, 1) := by decide +kernel
theorem dX13_lot_43 : decode cX13_lot 43 = .ok (.getfield 7, 3) := by decide +kernel
theorem dX13_lot_46 : decode cX13_lot 46 = .ok (.iload_n 1, 1) := by decide +kernel
theorem dX13_lot_47 : decode cX13_lot 47 = .ok (.iload_n 2, 1) := by decide +kernel
theorem dX13_lot_48 : decode cX13_lot 48 = .ok (.invokestatic 72, 3) := by decide +kernel
theorem dX13_lot_51 : decode cX13_lot 51 = .ok (.iaload, 1) := by decide +kernel
theorem dX13_lot_52 : decode cX13_lot 52 = .ok (.ireturn, 1) := by decide +kernel
theorem dX13_units_0 : decode cX13_units 0 = .ok (.aload_n 0, 1) := by decide +kernel
theorem dX13_units_1 : decode cX13_units 1 = .ok (.aload_n 0, 1) := by decide +kernel
theorem dX13_units_2 : decode cX13_units 2 = .ok (.iload_n 1, 1) := by decide +kernel
theorem dX13_units_3 : decode cX13_units 3 = .ok (.invokevirtual 76, 3) := by decide +kernel
theorem dX13_units_6 : decode cX13_units 6 = .ok (.ifCond .eq 20, 3) := by decide +kernel
theorem dX13_units_9 : decode cX13_units 9 = .ok (.iload_n 2, 1) := by decide +kernel
theorem dX13_units_10 : decode cX13_units 10 = .ok (.iconst (-1), 1) := by decide +kernel
theorem dX13_units_11 : decode cX13_units 11 = .ok (.iconst 4, 1) := by decide +kernel
theorem dX13_units_12 : decode cX13_units 12 = .ok (.invokestatic 68, 3) := by decide +kernel
theorem dX13_units_15 : decode cX13_units 15 = .ok (.ifCond .eq 7, 3) := by decide +kernel
theorem dX13_units_18 : decode cX13_units 18 = .ok (.iconst 0, 1) := by decide +kernel
theorem dX13_units_19 : decode cX13_units 19 = .ok (.goto 8, 3) := by decide +kernel
theorem dX13_units_22 : decode cX13_units 22 = .ok (.iconst 2, 1) := by decide +kernel
theorem dX13_units_23 : decode cX13_units 23 = .ok (.goto 4, 3) := by decide +kernel
theorem dX13_units_26 : decode cX13_units 26 = .ok (.iconst 1, 1) := by decide +kernel
theorem dX13_units_27 : decode cX13_units 27 = .ok (.putfield 54, 3) := by decide +kernel
theorem dX13_units_30 : decode cX13_units 30 = .ok (.aload_n 0, 1) := by decide +kernel
theorem dX13_units_31 : decode cX13_units 31 = .ok (.getfield 54, 3) := by decide +kernel
theorem dX13_units_34 : decode cX13_units 34 = .ok (.ifCond .le 7, 3) := by decide +kernel
theorem dX13_units_37 : decode cX13_units 37 = .ok (.iconst 0, 1) := by decide +kernel
theorem dX13_units_38 : decode cX13_units 38 = .ok (.goto 21, 3) := by decide +kernel
theorem dX13_units_41 : decode cX13_units 41 = .ok (.iload_n 2, 1) := by decide +kernel
theorem dX13_units_42 : decode cX13_units 42 = .ok (.ifCond .ge 11, 3) := by decide +kernel
theorem dX13_units_45 : decode cX13_units 45 = .ok (.aload_n 0, 1) := by decide +kernel
theorem dX13_units_46 : decode cX13_units 46 = .ok (.iload_n 1, 1) := by decide +kernel
theorem dX13_units_47 : decode cX13_units 47 = .ok (.invokevirtual 263, 3) := by decide +kernel
theorem dX13_units_50 : decode cX13_units 50 = .ok (.goto 9, 3) := by decide +kernel
theorem dX13_units_53 : decode cX13_units 53 = .ok (.aload_n 0, 1) := by decide +kernel
theorem dX13_units_54 : decode cX13_units 54 = .ok (.iload_n 1, 1) := by decide +kernel
theorem dX13_units_55 : decode cX13_units 55 = .ok (.iload_n 2, 1) := by decide +kernel
theorem dX13_units_56 : decode cX13_units 56 = .ok (.invokevirtual 175, 3) := by decide +kernel
theorem dX13_units_59 : decode cX13_units 59 = .ok (.ireturn, 1) := by decide +kernel
theorem dX13_unit_0 : decode cX13_unit 0 = .ok (.aload_n 0, 1) := by decide +kernel
theorem dX13_unit_1 : decode cX13_unit 1 = .ok (.aload_n 0, 1) := by decide +kernel
theorem dX13_unit_2 : decode cX13_unit 2 = .ok (.iload_n 1, 1) := by decide +kernel
theorem dX13_unit_3 : decode cX13_unit 3 = .ok (.iload_n 2, 1) := by decide +kernel
theorem dX13_unit_4 : decode cX13_unit 4 = .ok (.invokevirtual 218, 3) := by decide +kernel
theorem dX13_unit_7 : decode cX13_unit 7 = .ok (.ifCond .eq 20, 3) := by decide +kernel
theorem dX13_unit_10 : decode cX13_unit 10 = .ok (.iload_n 3, 1) := by decide +kernel
theorem dX13_unit_11 : decode cX13_unit 11 = .ok (.iconst 0, 1) := by decide +kernel
theorem dX13_unit_12 : decode cX13_unit 12 = .ok (.iconst 3, 1) := by decide +kernel
theorem dX13_unit_13 : decode cX13_unit 13 = .ok (.invokestatic 68, 3) := by decide +kernel
theorem dX13_unit_16 : decode cX13_unit 16 = .ok (.ifCond .eq 7, 3) := by decide +kernel
theorem dX13_unit_19 : decode cX13_unit 19 = .ok (.iconst 0, 1) := by decide +kernel
theorem dX13_unit_20 : decode cX13_unit 20 = .ok (.goto 8, 3) := by decide +kernel
theorem dX13_unit_23 : decode cX13_unit 23 = .ok (.iconst 2, 1) := by decide +kernel
theorem dX13_unit_24 : decode cX13_unit 24 = .ok (.goto 4, 3) := by decide +kernel
theorem dX13_unit_27 : decode cX13_unit 27 = .ok (.iconst 1, 1) := by decide +kernel
theorem dX13_unit_28 : decode cX13_unit 28 = .ok (.putfield 54, 3) := by decide +kernel
theorem dX13_unit_31 : decode cX13_unit 31 = .ok (.aload_n 0, 1) := by decide +kernel
theorem dX13_unit_32 : decode cX13_unit 32 = .ok (.getfield 54, 3) := by decide +kernel
theorem dX13_unit_35 : decode cX13_unit 35 = .ok (.ifCond .le 5, 3) := by decide +kernel
theorem dX13_unit_38 : decode cX13_unit 38 = .ok (.iconst 0, 1) := by decide +kernel
theorem dX13_unit_39 : decode cX13_unit 39 = .ok (.ireturn, 1) := by decide +kernel
theorem dX13_unit_40 : decode cX13_unit 40 = .ok (.iload_n 3, 1) := by decide +kernel
theorem dX13_unit_41 : decode cX13_unit 41 = .ok (.tableswitch 48 0 2 #[27, 34, 41], 27) := by decide +kernel
theorem dX13_unit_68 : decode cX13_unit 68 = .ok (.aload_n 0, 1) := by decide +kernel
theorem dX13_unit_69 : decode cX13_unit 69 = .ok (.iload_n 1, 1) := by decide +kernel
theorem dX13_unit_70 : decode cX13_unit 70 = .ok (.iload_n 2, 1) := by decide +kernel
theorem dX13_unit_71 : decode cX13_unit 71 = .ok (.invokevirtual 93, 3) := by decide +kernel
theorem dX13_unit_74 : decode cX13_unit 74 = .ok (.ireturn, 1) := by decide +kernel
theorem dX13_unit_75 : decode cX13_unit 75 = .ok (.aload_n 0, 1) := by decide +kernel
theorem dX13_unit_76 : decode cX13_unit 76 = .ok (.iload_n 1, 1) := by decide +kernel
theorem dX13_unit_77 : decode cX13_unit 77 = .ok (.iload_n 2, 1) := by decide +kernel
theorem dX13_unit_78 : decode cX13_unit 78 = .ok (.invokevirtual 87, 3) := by decide +kernel
theorem dX13_unit_81 : decode cX13_unit 81 = .ok (.ireturn, 1) := by decide +kernel
theorem dX13_unit_82 : decode cX13_unit 82 = .ok (.aload_n 0, 1) := by decide +kernel
theorem dX13_unit_83 : decode cX13_unit 83 = .ok (.iload_n 1, 1) := by decide +kernel
theorem dX13_unit_84 : decode cX13_unit 84 = .ok (.iload_n 2, 1) := by decide +kernel
theorem dX13_unit_85 : decode cX13_unit 85 = .ok (.invokevirtual 242, 3) := by decide +kernel
theorem dX13_unit_88 : decode cX13_unit 88 = .ok (.ireturn, 1) := by decide +kernel
theorem dX13_unit_89 : decode cX13_unit 89 = .ok (.aload_n 0, 1) := by decide +kernel
theorem dX13_unit_90 : decode cX13_unit 90 = .ok (.iload_n 1, 1) := by decide +kernel
theorem dX13_unit_91 : decode cX13_unit 91 = .ok (.iload_n 2, 1) := by decide +kernel
theorem dX13_unit_92 : decode cX13_unit 92 = .ok (.invokevirtual 96, 3) := by decide +kernel
theorem dX13_unit_95 : decode cX13_unit 95 = .ok (.ifCond .eq 7, 3) := by decide +kernel
theorem dX13_unit_98 : decode cX13_unit 98 = .ok (.iconst 1, 1) := by decide +kernel
theorem dX13_unit_99 : decode cX13_unit 99 = .ok (.goto 4, 3) := by decide +kernel
theorem dX13_unit_102 : decode cX13_unit 102 = .ok (.iconst 0, 1) := by decide +kernel
theorem dX13_unit_103 : decode cX13_unit 103 = .ok (.ireturn, 1) := by decide +kernel
theorem dX13_least0_0 : decode cX13_least0 0 = .ok (.iload_n 0, 1) := by decide +kernel
theorem dX13_least0_1 : decode cX13_least0 1 = .ok (.ifCond .le 7, 3) := by decide +kernel
theorem dX13_least0_4 : decode cX13_least0 4 = .ok (.iload_n 0, 1) := by decide +kernel
theorem dX13_least0_5 : decode cX13_least0 5 = .ok (.goto 4, 3) := by decide +kernel
theorem dX13_least0_8 : decode cX13_least0 8 = .ok (.iconst 0, 1) := by decide +kernel
theorem dX13_least0_9 : decode cX13_least0 9 = .ok (.ireturn, 1) := by decide +kernel
theorem dX13_chanceOf_0 : decode cX13_chanceOf 0 = .ok (.iconst 0, 1) := by decide +kernel
theorem dX13_chanceOf_1 : decode cX13_chanceOf 1 = .ok (.istore 5, 2) := by decide +kernel
theorem dX13_chanceOf_3 : decode cX13_chanceOf 3 = .ok (.iload 5, 2) := by decide +kernel
theorem dX13_chanceOf_5 : decode cX13_chanceOf 5 = .ok (.iload_n 3, 1) := by decide +kernel
theorem dX13_chanceOf_6 : decode cX13_chanceOf 6 = .ok (.if_icmp .gt 26, 3) := by decide +kernel
theorem dX13_chanceOf_9 : decode cX13_chanceOf 9 = .ok (.aload_n 0, 1) := by decide +kernel
theorem dX13_chanceOf_10 : decode cX13_chanceOf 10 = .ok (.getfield 27, 3) := by decide +kernel
theorem dX13_chanceOf_13 : decode cX13_chanceOf 13 = .ok (.iload 5, 2) := by decide +kernel
theorem dX13_chanceOf_15 : decode cX13_chanceOf 15 = .ok (.iload 5, 2) := by decide +kernel
theorem dX13_chanceOf_17 : decode cX13_chanceOf 17 = .ok (.ifCond .ne 7, 3) := by decide +kernel
theorem dX13_chanceOf_20 : decode cX13_chanceOf 20 = .ok (.dconst 1, 1) := by decide +kernel
theorem dX13_chanceOf_21 : decode cX13_chanceOf 21 = .ok (.goto 4, 3) := by decide +kernel
theorem dX13_chanceOf_24 : decode cX13_chanceOf 24 = .ok (.dconst 0, 1) := by decide +kernel
theorem dX13_chanceOf_25 : decode cX13_chanceOf 25 = .ok (.dastore, 1) := by decide +kernel
theorem dX13_chanceOf_26 : decode cX13_chanceOf 26 = .ok (.iinc 5 1, 3) := by decide +kernel
theorem dX13_chanceOf_29 : decode cX13_chanceOf 29 = .ok (.goto (-26), 3) := by decide +kernel
theorem dX13_chanceOf_32 : decode cX13_chanceOf 32 = .ok (.iconst 0, 1) := by decide +kernel
theorem dX13_chanceOf_33 : decode cX13_chanceOf 33 = .ok (.istore 5, 2) := by decide +kernel
theorem dX13_chanceOf_35 : decode cX13_chanceOf 35 = .ok (.iload 5, 2) := by decide +kernel
theorem dX13_chanceOf_37 : decode cX13_chanceOf 37 = .ok (.iload_n 3, 1) := by decide +kernel
theorem dX13_chanceOf_38 : decode cX13_chanceOf 38 = .ok (.if_icmp .ge 105, 3) := by decide +kernel
theorem dX13_chanceOf_41 : decode cX13_chanceOf 41 = .ok (.iload_n 1, 1) := by decide +kernel
theorem dX13_chanceOf_42 : decode cX13_chanceOf 42 = .ok (.iload 5, 2) := by decide +kernel
theorem dX13_chanceOf_44 : decode cX13_chanceOf 44 = .ok (.isub, 1) := by decide +kernel
theorem dX13_chanceOf_45 : decode cX13_chanceOf 45 = .ok (.i2d, 1) := by decide +kernel
theorem dX13_chanceOf_46 : decode cX13_chanceOf 46 = .ok (.dstore 6, 2) := by decide +kernel
theorem dX13_chanceOf_48 : decode cX13_chanceOf 48 = .ok (.iload 5, 2) := by decide +kernel
theorem dX13_chanceOf_50 : decode cX13_chanceOf 50 = .ok (.iconst 1, 1) := by decide +kernel
theorem dX13_chanceOf_51 : decode cX13_chanceOf 51 = .ok (.iadd, 1) := by decide +kernel
theorem dX13_chanceOf_52 : decode cX13_chanceOf 52 = .ok (.istore 8, 2) := by decide +kernel
theorem dX13_chanceOf_54 : decode cX13_chanceOf 54 = .ok (.iload 8, 2) := by decide +kernel
theorem dX13_chanceOf_56 : decode cX13_chanceOf 56 = .ok (.ifCond .lt 81, 3) := by decide +kernel
theorem dX13_chanceOf_59 : decode cX13_chanceOf 59 = .ok (.iload_n 1, 1) := by decide +kernel
theorem dX13_chanceOf_60 : decode cX13_chanceOf 60 = .ok (.iload_n 2, 1) := by decide +kernel
theorem dX13_chanceOf_61 : decode cX13_chanceOf 61 = .ok (.isub, 1) := by decide +kernel
theorem dX13_chanceOf_62 : decode cX13_chanceOf 62 = .ok (.iload 5, 2) := by decide +kernel
theorem dX13_chanceOf_64 : decode cX13_chanceOf 64 = .ok (.iload 8, 2) := by decide +kernel
theorem dX13_chanceOf_66 : decode cX13_chanceOf 66 = .ok (.isub, 1) := by decide +kernel
theorem dX13_chanceOf_67 : decode cX13_chanceOf 67 = .ok (.isub, 1) := by decide +kernel
theorem dX13_chanceOf_68 : decode cX13_chanceOf 68 = .ok (.invokestatic 266, 3) := by decide +kernel
theorem dX13_chanceOf_71 : decode cX13_chanceOf 71 = .ok (.i2d, 1) := by decide +kernel
theorem dX13_chanceOf_72 : decode cX13_chanceOf 72 = .ok (.dstore 9, 2) := by decide +kernel
theorem dX13_chanceOf_74 : decode cX13_chanceOf 74 = .ok (.iload_n 2, 1) := by decide +kernel
theorem dX13_chanceOf_75 : decode cX13_chanceOf 75 = .ok (.iload 8, 2) := by decide +kernel
theorem dX13_chanceOf_77 : decode cX13_chanceOf 77 = .ok (.iconst 1, 1) := by decide +kernel
theorem dX13_chanceOf_78 : decode cX13_chanceOf 78 = .ok (.isub, 1) := by decide +kernel
theorem dX13_chanceOf_79 : decode cX13_chanceOf 79 = .ok (.isub, 1) := by decide +kernel
theorem dX13_chanceOf_80 : decode cX13_chanceOf 80 = .ok (.invokestatic 266, 3) := by decide +kernel
theorem dX13_chanceOf_83 : decode cX13_chanceOf 83 = .ok (.i2d, 1) := by decide +kernel
theorem dX13_chanceOf_84 : decode cX13_chanceOf 84 = .ok (.dstore 11, 2) := by decide +kernel
theorem dX13_chanceOf_86 : decode cX13_chanceOf 86 = .ok (.aload_n 0, 1) := by decide +kernel
theorem dX13_chanceOf_87 : decode cX13_chanceOf 87 = .ok (.getfield 27, 3) := by decide +kernel
theorem dX13_chanceOf_90 : decode cX13_chanceOf 90 = .ok (.iload 8, 2) := by decide +kernel
theorem dX13_chanceOf_92 : decode cX13_chanceOf 92 = .ok (.aload_n 0, 1) := by decide +kernel
theorem dX13_chanceOf_93 : decode cX13_chanceOf 93 = .ok (.getfield 27, 3) := by decide +kernel
theorem dX13_chanceOf_96 : decode cX13_chanceOf 96 = .ok (.iload 8, 2) := by decide +kernel
theorem dX13_chanceOf_98 : decode cX13_chanceOf 98 = .ok (.daload, 1) := by decide +kernel
theorem dX13_chanceOf_99 : decode cX13_chanceOf 99 = .ok (.dload 9, 2) := by decide +kernel
theorem dX13_chanceOf_101 : decode cX13_chanceOf 101 = .ok (.dmul, 1) := by decide +kernel
theorem dX13_chanceOf_102 : decode cX13_chanceOf 102 = .ok (.dload 6, 2) := by decide +kernel
theorem dX13_chanceOf_104 : decode cX13_chanceOf 104 = .ok (.ddiv, 1) := by decide +kernel
theorem dX13_chanceOf_105 : decode cX13_chanceOf 105 = .ok (.iload 8, 2) := by decide +kernel
theorem dX13_chanceOf_107 : decode cX13_chanceOf 107 = .ok (.ifCond .le 15, 3) := by decide +kernel
theorem dX13_chanceOf_110 : decode cX13_chanceOf 110 = .ok (.aload_n 0, 1) := by decide +kernel
theorem dX13_chanceOf_111 : decode cX13_chanceOf 111 = .ok (.getfield 27, 3) := by decide +kernel
theorem dX13_chanceOf_114 : decode cX13_chanceOf 114 = .ok (.iload 8, 2) := by decide +kernel
theorem dX13_chanceOf_116 : decode cX13_chanceOf 116 = .ok (.iconst 1, 1) := by decide +kernel
theorem dX13_chanceOf_117 : decode cX13_chanceOf 117 = .ok (.isub, 1) := by decide +kernel
theorem dX13_chanceOf_118 : decode cX13_chanceOf 118 = .ok (.daload, 1) := by decide +kernel
theorem dX13_chanceOf_119 : decode cX13_chanceOf 119 = .ok (.goto 4, 3) := by decide +kernel
theorem dX13_chanceOf_122 : decode cX13_chanceOf 122 = .ok (.dconst 0, 1) := by decide +kernel
theorem dX13_chanceOf_123 : decode cX13_chanceOf 123 = .ok (.dload 11, 2) := by decide +kernel
theorem dX13_chanceOf_125 : decode cX13_chanceOf 125 = .ok (.dmul, 1) := by decide +kernel
theorem dX13_chanceOf_126 : decode cX13_chanceOf 126 = .ok (.dload 6, 2) := by decide +kernel
theorem dX13_chanceOf_128 : decode cX13_chanceOf 128 = .ok (.ddiv, 1) := by decide +kernel
theorem dX13_chanceOf_129 : decode cX13_chanceOf 129 = .ok (.dadd, 1) := by decide +kernel
theorem dX13_chanceOf_130 : decode cX13_chanceOf 130 = .ok (.dastore, 1) := by decide +kernel
theorem dX13_chanceOf_131 : decode cX13_chanceOf 131 = .ok (.iinc 8 (-1), 3) := by decide +kernel
theorem dX13_chanceOf_134 : decode cX13_chanceOf 134 = .ok (.goto (-80), 3) := by decide +kernel
theorem dX13_chanceOf_137 : decode cX13_chanceOf 137 = .ok (.iinc 5 1, 3) := by decide +kernel
theorem dX13_chanceOf_140 : decode cX13_chanceOf 140 = .ok (.goto (-105), 3) := by decide +kernel
theorem dX13_chanceOf_143 : decode cX13_chanceOf 143 = .ok (.dconst 0, 1) := by decide +kernel
theorem dX13_chanceOf_144 : decode cX13_chanceOf 144 = .ok (.dstore 5, 2) := by decide +kernel
theorem dX13_chanceOf_146 : decode cX13_chanceOf 146 = .ok (.iconst 0, 1) := by decide +kernel
theorem dX13_chanceOf_147 : decode cX13_chanceOf 147 = .ok (.istore 7, 2) := by decide +kernel
theorem dX13_chanceOf_149 : decode cX13_chanceOf 149 = .ok (.iload 7, 2) := by decide +kernel
theorem dX13_chanceOf_151 : decode cX13_chanceOf 151 = .ok (.iload 4, 2) := by decide +kernel
theorem dX13_chanceOf_153 : decode cX13_chanceOf 153 = .ok (.if_icmp .gt 27, 3) := by decide +kernel
theorem dX13_chanceOf_156 : decode cX13_chanceOf 156 = .ok (.iload 7, 2) := by decide +kernel
theorem dX13_chanceOf_158 : decode cX13_chanceOf 158 = .ok (.iload_n 3, 1) := by decide +kernel
theorem dX13_chanceOf_159 : decode cX13_chanceOf 159 = .ok (.if_icmp .gt 21, 3) := by decide +kernel
theorem dX13_chanceOf_162 : decode cX13_chanceOf 162 = .ok (.dload 5, 2) := by decide +kernel
theorem dX13_chanceOf_164 : decode cX13_chanceOf 164 = .ok (.aload_n 0, 1) := by decide +kernel
theorem dX13_chanceOf_165 : decode cX13_chanceOf 165 = .ok (.getfield 27, 3) := by decide +kernel
theorem dX13_chanceOf_168 : decode cX13_chanceOf 168 = .ok (.iload 7, 2) := by decide +kernel
theorem dX13_chanceOf_170 : decode cX13_chanceOf 170 = .ok (.daload, 1) := by decide +kernel
theorem dX13_chanceOf_171 : decode cX13_chanceOf 171 = .ok (.dadd, 1) := by decide +kernel
theorem dX13_chanceOf_172 : decode cX13_chanceOf 172 = .ok (.dstore 5, 2) := by decide +kernel
theorem dX13_chanceOf_174 : decode cX13_chanceOf 174 = .ok (.iinc 7 1, 3) := by decide +kernel
theorem dX13_chanceOf_177 : decode cX13_chanceOf 177 = .ok (.goto (-28), 3) := by decide +kernel
theorem dX13_chanceOf_180 : decode cX13_chanceOf 180 = .ok (.dload 5, 2) := by decide +kernel
theorem dX13_chanceOf_182 : decode cX13_chanceOf 182 = .ok (.dreturn, 1) := by decide +kernel
theorem dX13_chance_0 : decode cX13_chance 0 = .ok (.aload_n 0, 1) := by decide +kernel
theorem dX13_chance_1 : decode cX13_chance 1 = .ok (.aload_n 0, 1) := by decide +kernel
theorem dX13_chance_2 : decode cX13_chance 2 = .ok (.iload_n 1, 1) := by decide +kernel
theorem dX13_chance_3 : decode cX13_chance 3 = .ok (.invokevirtual 76, 3) := by decide +kernel
theorem dX13_chance_6 : decode cX13_chance 6 = .ok (.ifCond .ne 7, 3) := by decide +kernel
theorem dX13_chance_9 : decode cX13_chance 9 = .ok (.iconst 1, 1) := by decide +kernel
theorem dX13_chance_10 : decode cX13_chance 10 = .ok (.goto 30, 3) := by decide +kernel
theorem dX13_chance_13 : decode cX13_chance 13 = .ok (.iload_n 2, 1) := by decide +kernel
theorem dX13_chance_14 : decode cX13_chance 14 = .ok (.iconst 0, 1) := by decide +kernel
theorem dX13_chance_15 : decode cX13_chance 15 = .ok (.iconst 2, 1) := by decide +kernel
theorem dX13_chance_16 : decode cX13_chance 16 = .ok (.invokestatic 68, 3) := by decide +kernel
theorem dX13_chance_19 : decode cX13_chance 19 = .ok (.ifCond .ne 7, 3) := by decide +kernel
theorem dX13_chance_22 : decode cX13_chance 22 = .ok (.iconst 2, 1) := by decide +kernel
theorem dX13_chance_23 : decode cX13_chance 23 = .ok (.goto 17, 3) := by decide +kernel
theorem dX13_chance_26 : decode cX13_chance 26 = .ok (.aload_n 0, 1) := by decide +kernel
theorem dX13_chance_27 : decode cX13_chance 27 = .ok (.iload_n 1, 1) := by decide +kernel
theorem dX13_chance_28 : decode cX13_chance 28 = .ok (.iconst 0, 1) := by decide +kernel
theorem dX13_chance_29 : decode cX13_chance 29 = .ok (.invokevirtual 175, 3) := by decide +kernel
theorem dX13_chance_32 : decode cX13_chance 32 = .ok (.ifCond .ne 7, 3) := by decide +kernel
theorem dX13_chance_35 : decode cX13_chance 35 = .ok (.iconst 3, 1) := by decide +kernel
theorem dX13_chance_36 : decode cX13_chance 36 = .ok (.goto 4, 3) := by decide +kernel
theorem dX13_chance_39 : decode cX13_chance 39 = .ok (.iconst 0, 1) := by decide +kernel
theorem dX13_chance_40 : decode cX13_chance 40 = .ok (.putfield 54, 3) := by decide +kernel
theorem dX13_chance_43 : decode cX13_chance 43 = .ok (.aload_n 0, 1) := by decide +kernel
theorem dX13_chance_44 : decode cX13_chance 44 = .ok (.getfield 54, 3) := by decide +kernel
theorem dX13_chance_47 : decode cX13_chance 47 = .ok (.ifCond .le 5, 3) := by decide +kernel
theorem dX13_chance_50 : decode cX13_chance 50 = .ok (.lconst 0, 1) := by decide +kernel
theorem dX13_chance_51 : decode cX13_chance 51 = .ok (.lreturn, 1) := by decide +kernel
theorem dX13_chance_52 : decode cX13_chance 52 = .ok (.aload_n 0, 1) := by decide +kernel
theorem dX13_chance_53 : decode cX13_chance 53 = .ok (.iload_n 1, 1) := by decide +kernel
theorem dX13_chance_54 : decode cX13_chance 54 = .ok (.iconst 0, 1) := by decide +kernel
theorem dX13_chance_55 : decode cX13_chance 55 = .ok (.invokevirtual 175, 3) := by decide +kernel
theorem dX13_chance_58 : decode cX13_chance 58 = .ok (.istore_n 3, 1) := by decide +kernel
theorem dX13_chance_59 : decode cX13_chance 59 = .ok (.iload_n 3, 1) := by decide +kernel
theorem dX13_chance_60 : decode cX13_chance 60 = .ok (.iload_n 2, 1) := by decide +kernel
theorem dX13_chance_61 : decode cX13_chance 61 = .ok (.invokestatic 134, 3) := by decide +kernel
theorem dX13_chance_64 : decode cX13_chance 64 = .ok (.istore 4, 2) := by decide +kernel
theorem dX13_chance_66 : decode cX13_chance 66 = .ok (.aload_n 0, 1) := by decide +kernel
theorem dX13_chance_67 : decode cX13_chance 67 = .ok (.iload_n 3, 1) := by decide +kernel
theorem dX13_chance_68 : decode cX13_chance 68 = .ok (.aload_n 0, 1) := by decide +kernel
theorem dX13_chance_69 : decode cX13_chance 69 = .ok (.iload_n 1, 1) := by decide +kernel
theorem dX13_chance_70 : decode cX13_chance 70 = .ok (.invokevirtual 263, 3) := by decide +kernel
theorem dX13_chance_73 : decode cX13_chance 73 = .ok (.iload 4, 2) := by decide +kernel
theorem dX13_chance_75 : decode cX13_chance 75 = .ok (.iload 4, 2) := by decide +kernel
theorem dX13_chance_77 : decode cX13_chance 77 = .ok (.aload_n 0, 1) := by decide +kernel
theorem dX13_chance_78 : decode cX13_chance 78 = .ok (.getfield 7, 3) := by decide +kernel
theorem dX13_chance_81 : decode cX13_chance 81 = .ok (.aload_n 0, 1) := by decide +kernel
theorem dX13_chance_82 : decode cX13_chance 82 = .ok (.iload_n 1, 1) := by decide +kernel
theorem dX13_chance_83 : decode cX13_chance 83 = .ok (.invokevirtual 90, 3) := by decide +kernel
theorem dX13_chance_86 : decode cX13_chance 86 = .ok (.iaload, 1) := by decide +kernel
theorem dX13_chance_87 : decode cX13_chance 87 = .ok (.iload_n 2, 1) := by decide +kernel
theorem dX13_chance_88 : decode cX13_chance 88 = .ok (.invokestatic 137, 3) := by decide +kernel
theorem dX13_chance_91 : decode cX13_chance 91 = .ok (.invokevirtual 269, 3) := by decide +kernel
theorem dX13_chance_94 : decode cX13_chance 94 = .ok (.invokestatic 273, 3) := by decide +kernel
theorem dX13_chance_97 : decode cX13_chance 97 = .ok (.lreturn, 1) := by decide +kernel
theorem dX13_madeOf_0 : decode cX13_madeOf 0 = .ok (.aload_n 0, 1) := by decide +kernel
theorem dX13_madeOf_1 : decode cX13_madeOf 1 = .ok (.aload_n 0, 1) := by decide +kernel
theorem dX13_madeOf_2 : decode cX13_madeOf 2 = .ok (.iload_n 1, 1) := by decide +kernel
theorem dX13_madeOf_3 : decode cX13_madeOf 3 = .ok (.iload_n 2, 1) := by decide +kernel
theorem dX13_madeOf_4 : decode cX13_madeOf 4 = .ok (.invokevirtual 218, 3) := by decide +kernel
theorem dX13_madeOf_7 : decode cX13_madeOf 7 = .ok (.ifCond .ne 7, 3) := by decide +kernel
theorem dX13_madeOf_10 : decode cX13_madeOf 10 = .ok (.iconst 1, 1) := by decide +kernel
theorem dX13_madeOf_11 : decode cX13_madeOf 11 = .ok (.goto 29, 3) := by decide +kernel
theorem dX13_madeOf_14 : decode cX13_madeOf 14 = .ok (.iload_n 3, 1) := by decide +kernel
theorem dX13_madeOf_15 : decode cX13_madeOf 15 = .ok (.iconst 0, 1) := by decide +kernel
theorem dX13_madeOf_16 : decode cX13_madeOf 16 = .ok (.aload_n 0, 1) := by decide +kernel
theorem dX13_madeOf_17 : decode cX13_madeOf 17 = .ok (.getfield 7, 3) := by decide +kernel
theorem dX13_madeOf_20 : decode cX13_madeOf 20 = .ok (.iload_n 1, 1) := by decide +kernel
theorem dX13_madeOf_21 : decode cX13_madeOf 21 = .ok (.bipush 8, 2) := by decide +kernel
theorem dX13_madeOf_23 : decode cX13_madeOf 23 = .ok (.invokestatic 72, 3) := by decide +kernel
theorem dX13_madeOf_26 : decode cX13_madeOf 26 = .ok (.iaload, 1) := by decide +kernel
theorem dX13_madeOf_27 : decode cX13_madeOf 27 = .ok (.iconst 1, 1) := by decide +kernel
theorem dX13_madeOf_28 : decode cX13_madeOf 28 = .ok (.isub, 1) := by decide +kernel
theorem dX13_madeOf_29 : decode cX13_madeOf 29 = .ok (.invokestatic 68, 3) := by decide +kernel
theorem dX13_madeOf_32 : decode cX13_madeOf 32 = .ok (.ifCond .ne 7, 3) := by decide +kernel
theorem dX13_madeOf_35 : decode cX13_madeOf 35 = .ok (.iconst 2, 1) := by decide +kernel
theorem dX13_madeOf_36 : decode cX13_madeOf 36 = .ok (.goto 4, 3) := by decide +kernel
theorem dX13_madeOf_39 : decode cX13_madeOf 39 = .ok (.iconst 0, 1) := by decide +kernel
theorem dX13_madeOf_40 : decode cX13_madeOf 40 = .ok (.putfield 54, 3) := by decide +kernel
theorem dX13_madeOf_43 : decode cX13_madeOf 43 = .ok (.aload_n 0, 1) := by decide +kernel
theorem dX13_madeOf_44 : decode cX13_madeOf 44 = .ok (.getfield 54, 3) := by decide +kernel
theorem dX13_madeOf_47 : decode cX13_madeOf 47 = .ok (.ifCond .le 7, 3) := by decide +kernel
theorem dX13_madeOf_50 : decode cX13_madeOf 50 = .ok (.iconst 0, 1) := by decide +kernel
theorem dX13_madeOf_51 : decode cX13_madeOf 51 = .ok (.goto 21, 3) := by decide +kernel
theorem dX13_madeOf_54 : decode cX13_madeOf 54 = .ok (.sipush 1000, 3) := by decide +kernel
theorem dX13_madeOf_57 : decode cX13_madeOf 57 = .ok (.aload_n 0, 1) := by decide +kernel
theorem dX13_madeOf_58 : decode cX13_madeOf 58 = .ok (.iload_n 1, 1) := by decide +kernel
theorem dX13_madeOf_59 : decode cX13_madeOf 59 = .ok (.iload_n 3, 1) := by decide +kernel
theorem dX13_madeOf_60 : decode cX13_madeOf 60 = .ok (.invokevirtual 203, 3) := by decide +kernel
theorem dX13_madeOf_63 : decode cX13_madeOf 63 = .ok (.imul, 1) := by decide +kernel
theorem dX13_madeOf_64 : decode cX13_madeOf 64 = .ok (.aload_n 0, 1) := by decide +kernel
theorem dX13_madeOf_65 : decode cX13_madeOf 65 = .ok (.iload_n 1, 1) := by decide +kernel
theorem dX13_madeOf_66 : decode cX13_madeOf 66 = .ok (.iload_n 2, 1) := by decide +kernel
theorem dX13_madeOf_67 : decode cX13_madeOf 67 = .ok (.iload_n 3, 1) := by decide +kernel
theorem dX13_madeOf_68 : decode cX13_madeOf 68 = .ok (.invokevirtual 206, 3) := by decide +kernel
theorem dX13_madeOf_71 : decode cX13_madeOf 71 = .ok (.iadd, 1) := by decide +kernel
theorem dX13_madeOf_72 : decode cX13_madeOf 72 = .ok (.ireturn, 1) := by decide +kernel
theorem dX13_isMadeOf_0 : decode cX13_isMadeOf 0 = .ok (.iconst 0, 1) := by decide +kernel
theorem dX13_isMadeOf_1 : decode cX13_isMadeOf 1 = .ok (.istore 5, 2) := by decide +kernel
theorem dX13_isMadeOf_3 : decode cX13_isMadeOf 3 = .ok (.iload 5, 2) := by decide +kernel
theorem dX13_isMadeOf_5 : decode cX13_isMadeOf 5 = .ok (.aload_n 0, 1) := by decide +kernel
theorem dX13_isMadeOf_6 : decode cX13_isMadeOf 6 = .ok (.getfield 7, 3) := by decide +kernel
theorem dX13_isMadeOf_9 : decode cX13_isMadeOf 9 = .ok (.iload_n 1, 1) := by decide +kernel
theorem dX13_isMadeOf_10 : decode cX13_isMadeOf 10 = .ok (.bipush 8, 2) := by decide +kernel
theorem dX13_isMadeOf_12 : decode cX13_isMadeOf 12 = .ok (.invokestatic 72, 3) := by decide +kernel
theorem dX13_isMadeOf_15 : decode cX13_isMadeOf 15 = .ok (.iaload, 1) := by decide +kernel
theorem dX13_isMadeOf_16 : decode cX13_isMadeOf 16 = .ok (.if_icmp .ge 35, 3) := by decide +kernel
theorem dX13_isMadeOf_19 : decode cX13_isMadeOf 19 = .ok (.aload_n 0, 1) := by decide +kernel
theorem dX13_isMadeOf_20 : decode cX13_isMadeOf 20 = .ok (.iload_n 1, 1) := by decide +kernel
theorem dX13_isMadeOf_21 : decode cX13_isMadeOf 21 = .ok (.iload 5, 2) := by decide +kernel
theorem dX13_isMadeOf_23 : decode cX13_isMadeOf 23 = .ok (.invokevirtual 203, 3) := by decide +kernel
theorem dX13_isMadeOf_26 : decode cX13_isMadeOf 26 = .ok (.iload_n 3, 1) := by decide +kernel
theorem dX13_isMadeOf_27 : decode cX13_isMadeOf 27 = .ok (.if_icmp .ne 18, 3) := by decide +kernel
theorem dX13_isMadeOf_30 : decode cX13_isMadeOf 30 = .ok (.aload_n 0, 1) := by decide +kernel
theorem dX13_isMadeOf_31 : decode cX13_isMadeOf 31 = .ok (.iload_n 1, 1) := by decide +kernel
theorem dX13_isMadeOf_32 : decode cX13_isMadeOf 32 = .ok (.iload_n 2, 1) := by decide +kernel
theorem dX13_isMadeOf_33 : decode cX13_isMadeOf 33 = .ok (.iload 5, 2) := by decide +kernel
theorem dX13_isMadeOf_35 : decode cX13_isMadeOf 35 = .ok (.invokevirtual 206, 3) := by decide +kernel
theorem dX13_isMadeOf_38 : decode cX13_isMadeOf 38 = .ok (.iload 4, 2) := by decide +kernel
theorem dX13_isMadeOf_40 : decode cX13_isMadeOf 40 = .ok (.if_icmp .ne 5, 3) := by decide +kernel
theorem dX13_isMadeOf_43 : decode cX13_isMadeOf 43 = .ok (.iconst 1, 1) := by decide +kernel
theorem dX13_isMadeOf_44 : decode cX13_isMadeOf 44 = .ok (.ireturn, 1) := by decide +kernel
theorem dX13_isMadeOf_45 : decode cX13_isMadeOf 45 = .ok (.iinc 5 1, 3) := by decide +kernel
theorem dX13_isMadeOf_48 : decode cX13_isMadeOf 48 = .ok (.goto (-45), 3) := by decide +kernel
theorem dX13_isMadeOf_51 : decode cX13_isMadeOf 51 = .ok (.iconst 0, 1) := by decide +kernel
theorem dX13_isMadeOf_52 : decode cX13_isMadeOf 52 = .ok (.ireturn, 1) := by decide +kernel
theorem dX13_userOf_0 : decode cX13_userOf 0 = .ok (.iload_n 1, 1) := by decide +kernel
theorem dX13_userOf_1 : decode cX13_userOf 1 = .ok (.istore_n 3, 1) := by decide +kernel
theorem dX13_userOf_2 : decode cX13_userOf 2 = .ok (.iconst 0, 1) := by decide +kernel
theorem dX13_userOf_3 : decode cX13_userOf 3 = .ok (.istore 4, 2) := by decide +kernel
theorem dX13_userOf_5 : decode cX13_userOf 5 = .ok (.aload_n 0, 1) := by decide +kernel
theorem dX13_userOf_6 : decode cX13_userOf 6 = .ok (.iload_n 3, 1) := by decide +kernel
theorem dX13_userOf_7 : decode cX13_userOf 7 = .ok (.iload 4, 2) := by decide +kernel
theorem dX13_userOf_9 : decode cX13_userOf 9 = .ok (.invokevirtual 218, 3) := by decide +kernel
theorem dX13_userOf_12 : decode cX13_userOf 12 = .ok (.ifCond .eq 15, 3) := by decide +kernel
theorem dX13_userOf_15 : decode cX13_userOf 15 = .ok (.aload_n 0, 1) := by decide +kernel
theorem dX13_userOf_16 : decode cX13_userOf 16 = .ok (.iload_n 3, 1) := by decide +kernel
theorem dX13_userOf_17 : decode cX13_userOf 17 = .ok (.iload 4, 2) := by decide +kernel
theorem dX13_userOf_19 : decode cX13_userOf 19 = .ok (.iload_n 1, 1) := by decide +kernel
theorem dX13_userOf_20 : decode cX13_userOf 20 = .ok (.iload_n 2, 1) := by decide +kernel
theorem dX13_userOf_21 : decode cX13_userOf 21 = .ok (.invokevirtual 279, 3) := by decide +kernel
theorem dX13_userOf_24 : decode cX13_userOf 24 = .ok (.ifCond .ne 25, 3) := by decide +kernel
theorem dX13_userOf_27 : decode cX13_userOf 27 = .ok (.iinc 4 1, 3) := by decide +kernel
theorem dX13_userOf_30 : decode cX13_userOf 30 = .ok (.iload 4, 2) := by decide +kernel
theorem dX13_userOf_32 : decode cX13_userOf 32 = .ok (.aload_n 0, 1) := by decide +kernel
theorem dX13_userOf_33 : decode cX13_userOf 33 = .ok (.iload_n 3, 1) := by decide +kernel
theorem dX13_userOf_34 : decode cX13_userOf 34 = .ok (.invokevirtual 80, 3) := by decide +kernel
theorem dX13_userOf_37 : decode cX13_userOf 37 = .ok (.if_icmp .lt (-32), 3) := by decide +kernel
theorem dX13_userOf_40 : decode cX13_userOf 40 = .ok (.iinc 3 1, 3) := by decide +kernel
theorem dX13_userOf_43 : decode cX13_userOf 43 = .ok (.iconst 0, 1) := by decide +kernel
theorem dX13_userOf_44 : decode cX13_userOf 44 = .ok (.istore 4, 2) := by decide +kernel
theorem dX13_userOf_46 : decode cX13_userOf 46 = .ok (.goto (-41), 3) := by decide +kernel
theorem dX13_userOf_49 : decode cX13_userOf 49 = .ok (.sipush 1000, 3) := by decide +kernel
theorem dX13_userOf_52 : decode cX13_userOf 52 = .ok (.iload_n 3, 1) := by decide +kernel
theorem dX13_userOf_53 : decode cX13_userOf 53 = .ok (.imul, 1) := by decide +kernel
theorem dX13_userOf_54 : decode cX13_userOf 54 = .ok (.iload 4, 2) := by decide +kernel
theorem dX13_userOf_56 : decode cX13_userOf 56 = .ok (.iadd, 1) := by decide +kernel
theorem dX13_userOf_57 : decode cX13_userOf 57 = .ok (.ireturn, 1) := by decide +kernel
theorem dX13_whereabouts_0 : decode cX13_whereabouts 0 = .ok (.aload_n 0, 1) := by decide +kernel
theorem dX13_whereabouts_1 : decode cX13_whereabouts 1 = .ok (.aload_n 0, 1) := by decide +kernel
theorem dX13_whereabouts_2 : decode cX13_whereabouts 2 = .ok (.iload_n 1, 1) := by decide +kernel
theorem dX13_whereabouts_3 : decode cX13_whereabouts 3 = .ok (.iload_n 2, 1) := by decide +kernel
theorem dX13_whereabouts_4 : decode cX13_whereabouts 4 = .ok (.invokevirtual 218, 3) := by decide +kernel
theorem dX13_whereabouts_7 : decode cX13_whereabouts 7 = .ok (.ifCond .eq 7, 3) := by decide +kernel
theorem dX13_whereabouts_10 : decode cX13_whereabouts 10 = .ok (.iconst 0, 1) := by decide +kernel
theorem dX13_whereabouts_11 : decode cX13_whereabouts 11 = .ok (.goto 4, 3) := by decide +kernel
theorem dX13_whereabouts_14 : decode cX13_whereabouts 14 = .ok (.iconst 1, 1) := by decide +kernel
theorem dX13_whereabouts_15 : decode cX13_whereabouts 15 = .ok (.putfield 54, 3) := by decide +kernel
theorem dX13_whereabouts_18 : decode cX13_whereabouts 18 = .ok (.aload_n 0, 1) := by decide +kernel
theorem dX13_whereabouts_19 : decode cX13_whereabouts 19 = .ok (.getfield 54, 3) := by decide +kernel
theorem dX13_whereabouts_22 : decode cX13_whereabouts 22 = .ok (.ifCond .le 5, 3) := by decide +kernel
theorem dX13_whereabouts_25 : decode cX13_whereabouts 25 = .ok (.iconst 0, 1) := by decide +kernel
theorem dX13_whereabouts_26 : decode cX13_whereabouts 26 = .ok (.ireturn, 1) := by decide +kernel
theorem dX13_whereabouts_27 : decode cX13_whereabouts 27 = .ok (.sipush 1000, 3) := by decide +kernel
theorem dX13_whereabouts_30 : decode cX13_whereabouts 30 = .ok (.iload_n 1, 1) := by decide +kernel
theorem dX13_whereabouts_31 : decode cX13_whereabouts 31 = .ok (.imul, 1) := by decide +kernel
theorem dX13_whereabouts_32 : decode cX13_whereabouts 32 = .ok (.iload_n 2, 1) := by decide +kernel
theorem dX13_whereabouts_33 : decode cX13_whereabouts 33 = .ok (.iadd, 1) := by decide +kernel
theorem dX13_whereabouts_34 : decode cX13_whereabouts 34 = .ok (.istore_n 3, 1) := by decide +kernel
theorem dX13_whereabouts_35 : decode cX13_whereabouts 35 = .ok (.aload_n 0, 1) := by decide +kernel
theorem dX13_whereabouts_36 : decode cX13_whereabouts 36 = .ok (.iload_n 3, 1) := by decide +kernel
theorem dX13_whereabouts_37 : decode cX13_whereabouts 37 = .ok (.sipush 1000, 3) := by decide +kernel
theorem dX13_whereabouts_40 : decode cX13_whereabouts 40 = .ok (.idiv, 1) := by decide +kernel
theorem dX13_whereabouts_41 : decode cX13_whereabouts 41 = .ok (.iload_n 3, 1) := by decide +kernel
theorem dX13_whereabouts_42 : decode cX13_whereabouts 42 = .ok (.sipush 1000, 3) := by decide +kernel
theorem dX13_whereabouts_45 : decode cX13_whereabouts 45 = .ok (.irem, 1) := by decide +kernel
theorem dX13_whereabouts_46 : decode cX13_whereabouts 46 = .ok (.invokevirtual 93, 3) := by decide +kernel
theorem dX13_whereabouts_49 : decode cX13_whereabouts 49 = .ok (.iconst 3, 1) := by decide +kernel
theorem dX13_whereabouts_50 : decode cX13_whereabouts 50 = .ok (.if_icmp .ne 21, 3) := by decide +kernel
theorem dX13_whereabouts_53 : decode cX13_whereabouts 53 = .ok (.aload_n 0, 1) := by decide +kernel
theorem dX13_whereabouts_54 : decode cX13_whereabouts 54 = .ok (.iload_n 3, 1) := by decide +kernel
theorem dX13_whereabouts_55 : decode cX13_whereabouts 55 = .ok (.sipush 1000, 3) := by decide +kernel
theorem dX13_whereabouts_58 : decode cX13_whereabouts 58 = .ok (.idiv, 1) := by decide +kernel
theorem dX13_whereabouts_59 : decode cX13_whereabouts 59 = .ok (.iload_n 3, 1) := by decide +kernel
theorem dX13_whereabouts_60 : decode cX13_whereabouts 60 = .ok (.sipush 1000, 3) := by decide +kernel
theorem dX13_whereabouts_63 : decode cX13_whereabouts 63 = .ok (.irem, 1) := by decide +kernel
theorem dX13_whereabouts_64 : decode cX13_whereabouts 64 = .ok (.invokevirtual 283, 3) := by decide +kernel
theorem dX13_whereabouts_67 : decode cX13_whereabouts 67 = .ok (.istore_n 3, 1) := by decide +kernel
theorem dX13_whereabouts_68 : decode cX13_whereabouts 68 = .ok (.goto (-33), 3) := by decide +kernel
theorem dX13_whereabouts_71 : decode cX13_whereabouts 71 = .ok (.iload_n 3, 1) := by decide +kernel
theorem dX13_whereabouts_72 : decode cX13_whereabouts 72 = .ok (.ireturn, 1) := by decide +kernel
theorem dX13_marks_0 : decode cX13_marks 0 = .ok (.iconst 0, 1) := by decide +kernel
theorem dX13_marks_1 : decode cX13_marks 1 = .ok (.istore_n 2, 1) := by decide +kernel
theorem dX13_marks_2 : decode cX13_marks 2 = .ok (.iconst 0, 1) := by decide +kernel
theorem dX13_marks_3 : decode cX13_marks 3 = .ok (.istore_n 3, 1) := by decide +kernel
theorem dX13_marks_4 : decode cX13_marks 4 = .ok (.iload_n 3, 1) := by decide +kernel
theorem dX13_marks_5 : decode cX13_marks 5 = .ok (.aload_n 0, 1) := by decide +kernel
theorem dX13_marks_6 : decode cX13_marks 6 = .ok (.getfield 7, 3) := by decide +kernel
theorem dX13_marks_9 : decode cX13_marks 9 = .ok (.iconst 0, 1) := by decide +kernel
theorem dX13_marks_10 : decode cX13_marks 10 = .ok (.iaload, 1) := by decide +kernel
theorem dX13_marks_11 : decode cX13_marks 11 = .ok (.if_icmp .ge 136, 3) := by decide +kernel
theorem dX13_marks_14 : decode cX13_marks 14 = .ok (.iconst 0, 1) := by decide +kernel
theorem dX13_marks_15 : decode cX13_marks 15 = .ok (.istore 4, 2) := by decide +kernel
theorem dX13_marks_17 : decode cX13_marks 17 = .ok (.iload 4, 2) := by decide +kernel
theorem dX13_marks_19 : decode cX13_marks 19 = .ok (.aload_n 0, 1) := by decide +kernel
theorem dX13_marks_20 : decode cX13_marks 20 = .ok (.iload_n 3, 1) := by decide +kernel
theorem dX13_marks_21 : decode cX13_marks 21 = .ok (.invokevirtual 80, 3) := by decide +kernel
theorem dX13_marks_24 : decode cX13_marks 24 = .ok (.if_icmp .ge 117, 3) := by decide +kernel
theorem dX13_marks_27 : decode cX13_marks 27 = .ok (.iload_n 3, 1) := by decide +kernel
theorem dX13_marks_28 : decode cX13_marks 28 = .ok (.iload_n 1, 1) := by decide +kernel
theorem dX13_marks_29 : decode cX13_marks 29 = .ok (.if_icmp .ne 7, 3) := by decide +kernel
theorem dX13_marks_32 : decode cX13_marks 32 = .ok (.iconst 1, 1) := by decide +kernel
theorem dX13_marks_33 : decode cX13_marks 33 = .ok (.goto 4, 3) := by decide +kernel
theorem dX13_marks_36 : decode cX13_marks 36 = .ok (.iconst 0, 1) := by decide +kernel
theorem dX13_marks_37 : decode cX13_marks 37 = .ok (.istore 5, 2) := by decide +kernel
theorem dX13_marks_39 : decode cX13_marks 39 = .ok (.iconst 0, 1) := by decide +kernel
theorem dX13_marks_40 : decode cX13_marks 40 = .ok (.istore 6, 2) := by decide +kernel
theorem dX13_marks_42 : decode cX13_marks 42 = .ok (.iload 6, 2) := by decide +kernel
theorem dX13_marks_44 : decode cX13_marks 44 = .ok (.aload_n 0, 1) := by decide +kernel
theorem dX13_marks_45 : decode cX13_marks 45 = .ok (.getfield 7, 3) := by decide +kernel
theorem dX13_marks_48 : decode cX13_marks 48 = .ok (.iload_n 3, 1) := by decide +kernel
theorem dX13_marks_49 : decode cX13_marks 49 = .ok (.bipush 8, 2) := by decide +kernel
theorem dX13_marks_51 : decode cX13_marks 51 = .ok (.invokestatic 72, 3) := by decide +kernel
theorem dX13_marks_54 : decode cX13_marks 54 = .ok (.iaload, 1) := by decide +kernel
theorem dX13_marks_55 : decode cX13_marks 55 = .ok (.if_icmp .ge 50, 3) := by decide +kernel
theorem dX13_marks_58 : decode cX13_marks 58 = .ok (.iload 5, 2) := by decide +kernel
theorem dX13_marks_60 : decode cX13_marks 60 = .ok (.ifCond .ne 32, 3) := by decide +kernel
theorem dX13_marks_63 : decode cX13_marks 63 = .ok (.aload_n 0, 1) := by decide +kernel
theorem dX13_marks_64 : decode cX13_marks 64 = .ok (.getfield 31, 3) := by decide +kernel
theorem dX13_marks_67 : decode cX13_marks 67 = .ok (.sipush 200, 3) := by decide +kernel
theorem dX13_marks_70 : decode cX13_marks 70 = .ok (.aload_n 0, 1) := by decide +kernel
theorem dX13_marks_71 : decode cX13_marks 71 = .ok (.iload_n 3, 1) := by decide +kernel
theorem dX13_marks_72 : decode cX13_marks 72 = .ok (.iload 6, 2) := by decide +kernel
theorem dX13_marks_74 : decode cX13_marks 74 = .ok (.invokevirtual 203, 3) := by decide +kernel
theorem dX13_marks_77 : decode cX13_marks 77 = .ok (.imul, 1) := by decide +kernel
theorem dX13_marks_78 : decode cX13_marks 78 = .ok (.aload_n 0, 1) := by decide +kernel
theorem dX13_marks_79 : decode cX13_marks 79 = .ok (.iload_n 3, 1) := by decide +kernel
theorem dX13_marks_80 : decode cX13_marks 80 = .ok (.iload 4, 2) := by decide +kernel
theorem dX13_marks_82 : decode cX13_marks 82 = .ok (.iload 6, 2) := by decide +kernel
theorem dX13_marks_84 : decode cX13_marks 84 = .ok (.invokevirtual 206, 3) := by decide +kernel
theorem dX13_marks_87 : decode cX13_marks 87 = .ok (.iadd, 1) := by decide +kernel
theorem dX13_marks_88 : decode cX13_marks 88 = .ok (.baload, 1) := by decide +kernel
theorem dX13_marks_89 : decode cX13_marks 89 = .ok (.ifCond .eq 7, 3) := by decide +kernel
theorem dX13_marks_92 : decode cX13_marks 92 = .ok (.iconst 1, 1) := by decide +kernel
theorem dX13_marks_93 : decode cX13_marks 93 = .ok (.goto 4, 3) := by decide +kernel
theorem dX13_marks_96 : decode cX13_marks 96 = .ok (.iconst 0, 1) := by decide +kernel
theorem dX13_marks_97 : decode cX13_marks 97 = .ok (.istore 5, 2) := by decide +kernel
theorem dX13_marks_99 : decode cX13_marks 99 = .ok (.iinc 6 1, 3) := by decide +kernel
theorem dX13_marks_102 : decode cX13_marks 102 = .ok (.goto (-60), 3) := by decide +kernel
theorem dX13_marks_105 : decode cX13_marks 105 = .ok (.aload_n 0, 1) := by decide +kernel
theorem dX13_marks_106 : decode cX13_marks 106 = .ok (.getfield 31, 3) := by decide +kernel
theorem dX13_marks_109 : decode cX13_marks 109 = .ok (.sipush 200, 3) := by decide +kernel
theorem dX13_marks_112 : decode cX13_marks 112 = .ok (.iload_n 3, 1) := by decide +kernel
theorem dX13_marks_113 : decode cX13_marks 113 = .ok (.imul, 1) := by decide +kernel
theorem dX13_marks_114 : decode cX13_marks 114 = .ok (.iload 4, 2) := by decide +kernel
theorem dX13_marks_116 : decode cX13_marks 116 = .ok (.iadd, 1) := by decide +kernel
theorem dX13_marks_117 : decode cX13_marks 117 = .ok (.iload 5, 2) := by decide +kernel
theorem dX13_marks_119 : decode cX13_marks 119 = .ok (.bastore, 1) := by decide +kernel
theorem dX13_marks_120 : decode cX13_marks 120 = .ok (.iload_n 2, 1) := by decide +kernel
theorem dX13_marks_121 : decode cX13_marks 121 = .ok (.iload 5, 2) := by decide +kernel
theorem dX13_marks_123 : decode cX13_marks 123 = .ok (.ifCond .eq 9, 3) := by decide +kernel
theorem dX13_marks_126 : decode cX13_marks 126 = .ok (.iconst 1, 1) := by decide +kernel
theorem dX13_marks_127 : decode cX13_marks 127 = .ok (.iload_n 3, 1) := by decide +kernel
theorem dX13_marks_128 : decode cX13_marks 128 = .ok (.ishl, 1) := by decide +kernel
theorem dX13_marks_129 : decode cX13_marks 129 = .ok (.goto 4, 3) := by decide +kernel
theorem dX13_marks_132 : decode cX13_marks 132 = .ok (.iconst 0, 1) := by decide +kernel
theorem dX13_marks_133 : decode cX13_marks 133 = .ok (.ior, 1) := by decide +kernel
theorem dX13_marks_134 : decode cX13_marks 134 = .ok (.istore_n 2, 1) := by decide +kernel
theorem dX13_marks_135 : decode cX13_marks 135 = .ok (.iinc 4 1, 3) := by decide +kernel
theorem dX13_marks_138 : decode cX13_marks 138 = .ok (.goto (-121), 3) := by decide +kernel
theorem dX13_marks_141 : decode cX13_marks 141 = .ok (.iinc 3 1, 3) := by decide +kernel
theorem dX13_marks_144 : decode cX13_marks 144 = .ok (.goto (-140), 3) := by decide +kernel
theorem dX13_marks_147 : decode cX13_marks 147 = .ok (.iload_n 2, 1) := by decide +kernel
theorem dX13_marks_148 : decode cX13_marks 148 = .ok (.ireturn, 1) := by decide +kernel
theorem dX13_recall_0 : decode cX13_recall 0 = .ok (.aload_n 0, 1) := by decide +kernel
theorem dX13_recall_1 : decode cX13_recall 1 = .ok (.aload_n 0, 1) := by decide +kernel
theorem dX13_recall_2 : decode cX13_recall 2 = .ok (.iload_n 1, 1) := by decide +kernel
theorem dX13_recall_3 : decode cX13_recall 3 = .ok (.invokevirtual 76, 3) := by decide +kernel
theorem dX13_recall_6 : decode cX13_recall 6 = .ok (.ifCond .eq 7, 3) := by decide +kernel
theorem dX13_recall_9 : decode cX13_recall 9 = .ok (.iconst 0, 1) := by decide +kernel
theorem dX13_recall_10 : decode cX13_recall 10 = .ok (.goto 4, 3) := by decide +kernel
theorem dX13_recall_13 : decode cX13_recall 13 = .ok (.iconst 1, 1) := by decide +kernel
theorem dX13_recall_14 : decode cX13_recall 14 = .ok (.putfield 54, 3) := by decide +kernel
theorem dX13_recall_17 : decode cX13_recall 17 = .ok (.aload_n 0, 1) := by decide +kernel
theorem dX13_recall_18 : decode cX13_recall 18 = .ok (.getfield 54, 3) := by decide +kernel
theorem dX13_recall_21 : decode cX13_recall 21 = .ok (.ifCond .le 7, 3) := by decide +kernel
theorem dX13_recall_24 : decode cX13_recall 24 = .ok (.iconst 0, 1) := by decide +kernel
theorem dX13_recall_25 : decode cX13_recall 25 = .ok (.goto 8, 3) := by decide +kernel
theorem dX13_recall_28 : decode cX13_recall 28 = .ok (.aload_n 0, 1) := by decide +kernel
theorem dX13_recall_29 : decode cX13_recall 29 = .ok (.iload_n 1, 1) := by decide +kernel
theorem dX13_recall_30 : decode cX13_recall 30 = .ok (.invokevirtual 286, 3) := by decide +kernel
theorem dX13_recall_33 : decode cX13_recall 33 = .ok (.ireturn, 1) := by decide +kernel
theorem dX13_recalled_0 : decode cX13_recalled 0 = .ok (.aload_n 0, 1) := by decide +kernel
theorem dX13_recalled_1 : decode cX13_recalled 1 = .ok (.aload_n 0, 1) := by decide +kernel
theorem dX13_recalled_2 : decode cX13_recalled 2 = .ok (.iload_n 1, 1) := by decide +kernel
theorem dX13_recalled_3 : decode cX13_recalled 3 = .ok (.invokevirtual 76, 3) := by decide +kernel
theorem dX13_recalled_6 : decode cX13_recalled 6 = .ok (.ifCond .eq 20, 3) := by decide +kernel
theorem dX13_recalled_9 : decode cX13_recalled 9 = .ok (.iload_n 2, 1) := by decide +kernel
theorem dX13_recalled_10 : decode cX13_recalled 10 = .ok (.iconst 0, 1) := by decide +kernel
theorem dX13_recalled_11 : decode cX13_recalled 11 = .ok (.iconst 4, 1) := by decide +kernel
theorem dX13_recalled_12 : decode cX13_recalled 12 = .ok (.invokestatic 68, 3) := by decide +kernel
theorem dX13_recalled_15 : decode cX13_recalled 15 = .ok (.ifCond .eq 7, 3) := by decide +kernel
theorem dX13_recalled_18 : decode cX13_recalled 18 = .ok (.iconst 0, 1) := by decide +kernel
theorem dX13_recalled_19 : decode cX13_recalled 19 = .ok (.goto 8, 3) := by decide +kernel
theorem dX13_recalled_22 : decode cX13_recalled 22 = .ok (.iconst 2, 1) := by decide +kernel
theorem dX13_recalled_23 : decode cX13_recalled 23 = .ok (.goto 4, 3) := by decide +kernel
theorem dX13_recalled_26 : decode cX13_recalled 26 = .ok (.iconst 1, 1) := by decide +kernel
theorem dX13_recalled_27 : decode cX13_recalled 27 = .ok (.putfield 54, 3) := by decide +kernel
theorem dX13_recalled_30 : decode cX13_recalled 30 = .ok (.aload_n 0, 1) := by decide +kernel
theorem dX13_recalled_31 : decode cX13_recalled 31 = .ok (.getfield 54, 3) := by decide +kernel
theorem dX13_recalled_34 : decode cX13_recalled 34 = .ok (.ifCond .le 5, 3) := by decide +kernel
theorem dX13_recalled_37 : decode cX13_recalled 37 = .ok (.iconst 0, 1) := by decide +kernel
theorem dX13_recalled_38 : decode cX13_recalled 38 = .ok (.ireturn, 1) := by decide +kernel
theorem dX13_recalled_39 : decode cX13_recalled 39 = .ok (.aload_n 0, 1) := by decide +kernel
theorem dX13_recalled_40 : decode cX13_recalled 40 = .ok (.iload_n 1, 1) := by decide +kernel
theorem dX13_recalled_41 : decode cX13_recalled 41 = .ok (.invokevirtual 286, 3) := by decide +kernel
theorem dX13_recalled_44 : decode cX13_recalled 44 = .ok (.pop, 1) := by decide +kernel
theorem dX13_recalled_45 : decode cX13_recalled 45 = .ok (.iconst 0, 1) := by decide +kernel
theorem dX13_recalled_46 : decode cX13_recalled 46 = .ok (.istore_n 3, 1) := by decide +kernel
theorem dX13_recalled_47 : decode cX13_recalled 47 = .ok (.iconst 0, 1) := by decide +kernel
theorem dX13_recalled_48 : decode cX13_recalled 48 = .ok (.istore 4, 2) := by decide +kernel
theorem dX13_recalled_50 : decode cX13_recalled 50 = .ok (.iload 4, 2) := by decide +kernel
theorem dX13_recalled_52 : decode cX13_recalled 52 = .ok (.aload_n 0, 1) := by decide +kernel
theorem dX13_recalled_53 : decode cX13_recalled 53 = .ok (.getfield 7, 3) := by decide +kernel
theorem dX13_recalled_56 : decode cX13_recalled 56 = .ok (.iconst 0, 1) := by decide +kernel
theorem dX13_recalled_57 : decode cX13_recalled 57 = .ok (.iaload, 1) := by decide +kernel
theorem dX13_recalled_58 : decode cX13_recalled 58 = .ok (.if_icmp .ge 66, 3) := by decide +kernel
theorem dX13_recalled_61 : decode cX13_recalled 61 = .ok (.iconst 0, 1) := by decide +kernel
theorem dX13_recalled_62 : decode cX13_recalled 62 = .ok (.istore 5, 2) := by decide +kernel
theorem dX13_recalled_64 : decode cX13_recalled 64 = .ok (.iload 5, 2) := by decide +kernel
theorem dX13_recalled_66 : decode cX13_recalled 66 = .ok (.aload_n 0, 1) := by decide +kernel
theorem dX13_recalled_67 : decode cX13_recalled 67 = .ok (.iload 4, 2) := by decide +kernel
theorem dX13_recalled_69 : decode cX13_recalled 69 = .ok (.invokevirtual 80, 3) := by decide +kernel
theorem dX13_recalled_72 : decode cX13_recalled 72 = .ok (.if_icmp .ge 46, 3) := by decide +kernel
theorem dX13_recalled_75 : decode cX13_recalled 75 = .ok (.iload_n 3, 1) := by decide +kernel
theorem dX13_recalled_76 : decode cX13_recalled 76 = .ok (.aload_n 0, 1) := by decide +kernel
theorem dX13_recalled_77 : decode cX13_recalled 77 = .ok (.getfield 31, 3) := by decide +kernel
theorem dX13_recalled_80 : decode cX13_recalled 80 = .ok (.sipush 200, 3) := by decide +kernel
theorem dX13_recalled_83 : decode cX13_recalled 83 = .ok (.iload 4, 2) := by decide +kernel
theorem dX13_recalled_85 : decode cX13_recalled 85 = .ok (.imul, 1) := by decide +kernel
theorem dX13_recalled_86 : decode cX13_recalled 86 = .ok (.iload 5, 2) := by decide +kernel
theorem dX13_recalled_88 : decode cX13_recalled 88 = .ok (.iadd, 1) := by decide +kernel
theorem dX13_recalled_89 : decode cX13_recalled 89 = .ok (.baload, 1) := by decide +kernel
theorem dX13_recalled_90 : decode cX13_recalled 90 = .ok (.ifCond .eq 19, 3) := by decide +kernel
theorem dX13_recalled_93 : decode cX13_recalled 93 = .ok (.aload_n 0, 1) := by decide +kernel
theorem dX13_recalled_94 : decode cX13_recalled 94 = .ok (.iload 4, 2) := by decide +kernel
theorem dX13_recalled_96 : decode cX13_recalled 96 = .ok (.iload 5, 2) := by decide +kernel
theorem dX13_recalled_98 : decode cX13_recalled 98 = .ok (.invokevirtual 93, 3) := by decide +kernel
theorem dX13_recalled_101 : decode cX13_recalled 101 = .ok (.iload_n 2, 1) := by decide +kernel
theorem dX13_recalled_102 : decode cX13_recalled 102 = .ok (.if_icmp .ne 7, 3) := by decide +kernel
theorem dX13_recalled_105 : decode cX13_recalled 105 = .ok (.iconst 1, 1) := by decide +kernel
theorem dX13_recalled_106 : decode cX13_recalled 106 = .ok (.goto 4, 3) := by decide +kernel
theorem dX13_recalled_109 : decode cX13_recalled 109 = .ok (.iconst 0, 1) := by decide +kernel
theorem dX13_recalled_110 : decode cX13_recalled 110 = .ok (.iadd, 1) := by decide +kernel
theorem dX13_recalled_111 : decode cX13_recalled 111 = .ok (.istore_n 3, 1) := by decide +kernel
theorem dX13_recalled_112 : decode cX13_recalled 112 = .ok (.iinc 5 1, 3) := by decide +kernel
theorem dX13_recalled_115 : decode cX13_recalled 115 = .ok (.goto (-51), 3) := by decide +kernel
theorem dX13_recalled_118 : decode cX13_recalled 118 = .ok (.iinc 4 1, 3) := by decide +kernel
theorem dX13_recalled_121 : decode cX13_recalled 121 = .ok (.goto (-71), 3) := by decide +kernel
theorem dX13_recalled_124 : decode cX13_recalled 124 = .ok (.iload_n 3, 1) := by decide +kernel
theorem dX13_recalled_125 : decode cX13_recalled 125 = .ok (.ireturn, 1) := by decide +kernel
theorem dX13_blame_0 : decode cX13_blame 0 = .ok (.aload_n 0, 1) := by decide +kernel
theorem dX13_blame_1 : decode cX13_blame 1 = .ok (.iload_n 1, 1) := by decide +kernel
theorem dX13_blame_2 : decode cX13_blame 2 = .ok (.iconst 0, 1) := by decide +kernel
theorem dX13_blame_3 : decode cX13_blame 3 = .ok (.bipush 6, 2) := by decide +kernel
theorem dX13_blame_5 : decode cX13_blame 5 = .ok (.invokestatic 68, 3) := by decide +kernel
theorem dX13_blame_8 : decode cX13_blame 8 = .ok (.ifCond .eq 16, 3) := by decide +kernel
theorem dX13_blame_11 : decode cX13_blame 11 = .ok (.iload_n 2, 1) := by decide +kernel
theorem dX13_blame_12 : decode cX13_blame 12 = .ok (.iconst (-1), 1) := by decide +kernel
theorem dX13_blame_13 : decode cX13_blame 13 = .ok (.iconst 3, 1) := by decide +kernel
theorem dX13_blame_14 : decode cX13_blame 14 = .ok (.invokestatic 68, 3) := by decide +kernel
theorem dX13_blame_17 : decode cX13_blame 17 = .ok (.ifCond .eq 7, 3) := by decide +kernel
theorem dX13_blame_20 : decode cX13_blame 20 = .ok (.iconst 0, 1) := by decide +kernel
theorem dX13_blame_21 : decode cX13_blame 21 = .ok (.goto 4, 3) := by decide +kernel
theorem dX13_blame_24 : decode cX13_blame 24 = .ok (.iconst 1, 1) := by decide +kernel
theorem dX13_blame_25 : decode cX13_blame 25 = .ok (.putfield 54, 3) := by decide +kernel
theorem dX13_blame_28 : decode cX13_blame 28 = .ok (.aload_n 0, 1) := by decide +kernel
theorem dX13_blame_29 : decode cX13_blame 29 = .ok (.getfield 54, 3) := by decide +kernel
theorem dX13_blame_32 : decode cX13_blame 32 = .ok (.ifCond .le 5, 3) := by decide +kernel
theorem dX13_blame_35 : decode cX13_blame 35 = .ok (.iconst 0, 1) := by decide +kernel
theorem dX13_blame_36 : decode cX13_blame 36 = .ok (.ireturn, 1) := by decide +kernel
theorem dX13_blame_37 : decode cX13_blame 37 = .ok (.bipush 62, 2) := by decide +kernel
theorem dX13_blame_39 : decode cX13_blame 39 = .ok (.iconst 4, 1) := by decide +kernel
theorem dX13_blame_40 : decode cX13_blame 40 = .ok (.iload_n 1, 1) := by decide +kernel
theorem dX13_blame_41 : decode cX13_blame 41 = .ok (.imul, 1) := by decide +kernel
theorem dX13_blame_42 : decode cX13_blame 42 = .ok (.iadd, 1) := by decide +kernel
theorem dX13_blame_43 : decode cX13_blame 43 = .ok (.istore_n 3, 1) := by decide +kernel
theorem dX13_blame_44 : decode cX13_blame 44 = .ok (.iload_n 2, 1) := by decide +kernel
theorem dX13_blame_45 : decode cX13_blame 45 = .ok (.ifCond .ge 39, 3) := by decide +kernel
theorem dX13_blame_48 : decode cX13_blame 48 = .ok (.aload_n 0, 1) := by decide +kernel
theorem dX13_blame_49 : decode cX13_blame 49 = .ok (.getfield 7, 3) := by decide +kernel
theorem dX13_blame_52 : decode cX13_blame 52 = .ok (.iload_n 3, 1) := by decide +kernel
theorem dX13_blame_53 : decode cX13_blame 53 = .ok (.iaload, 1) := by decide +kernel
theorem dX13_blame_54 : decode cX13_blame 54 = .ok (.aload_n 0, 1) := by decide +kernel
theorem dX13_blame_55 : decode cX13_blame 55 = .ok (.getfield 7, 3) := by decide +kernel
theorem dX13_blame_58 : decode cX13_blame 58 = .ok (.iload_n 3, 1) := by decide +kernel
theorem dX13_blame_59 : decode cX13_blame 59 = .ok (.iconst 1, 1) := by decide +kernel
theorem dX13_blame_60 : decode cX13_blame 60 = .ok (.iadd, 1) := by decide +kernel
theorem dX13_blame_61 : decode cX13_blame 61 = .ok (.iaload, 1) := by decide +kernel
theorem dX13_blame_62 : decode cX13_blame 62 = .ok (.iadd, 1) := by decide +kernel
theorem dX13_blame_63 : decode cX13_blame 63 = .ok (.aload_n 0, 1) := by decide +kernel
theorem dX13_blame_64 : decode cX13_blame 64 = .ok (.getfield 7, 3) := by decide +kernel
theorem dX13_blame_67 : decode cX13_blame 67 = .ok (.iload_n 3, 1) := by decide +kernel
theorem dX13_blame_68 : decode cX13_blame 68 = .ok (.iconst 2, 1) := by decide +kernel
theorem dX13_blame_69 : decode cX13_blame 69 = .ok (.iadd, 1) := by decide +kernel
theorem dX13_blame_70 : decode cX13_blame 70 = .ok (.iaload, 1) := by decide +kernel
theorem dX13_blame_71 : decode cX13_blame 71 = .ok (.iadd, 1) := by decide +kernel
theorem dX13_blame_72 : decode cX13_blame 72 = .ok (.aload_n 0, 1) := by decide +kernel
theorem dX13_blame_73 : decode cX13_blame 73 = .ok (.getfield 7, 3) := by decide +kernel
theorem dX13_blame_76 : decode cX13_blame 76 = .ok (.iload_n 3, 1) := by decide +kernel
theorem dX13_blame_77 : decode cX13_blame 77 = .ok (.iconst 3, 1) := by decide +kernel
theorem dX13_blame_78 : decode cX13_blame 78 = .ok (.iadd, 1) := by decide +kernel
theorem dX13_blame_79 : decode cX13_blame 79 = .ok (.iaload, 1) := by decide +kernel
theorem dX13_blame_80 : decode cX13_blame 80 = .ok (.iadd, 1) := by decide +kernel
theorem dX13_blame_81 : decode cX13_blame 81 = .ok (.goto 11, 3) := by decide +kernel
theorem dX13_blame_84 : decode cX13_blame 84 = .ok (.aload_n 0, 1) := by decide +kernel
theorem dX13_blame_85 : decode cX13_blame 85 = .ok (.getfield 7, 3) := by decide +kernel
theorem dX13_blame_88 : decode cX13_blame 88 = .ok (.iload_n 3, 1) := by decide +kernel
theorem dX13_blame_89 : decode cX13_blame 89 = .ok (.iload_n 2, 1) := by decide +kernel
theorem dX13_blame_90 : decode cX13_blame 90 = .ok (.iadd, 1) := by decide +kernel
theorem dX13_blame_91 : decode cX13_blame 91 = .ok (.iaload, 1) := by decide +kernel
theorem dX13_blame_92 : decode cX13_blame 92 = .ok (.ireturn, 1) := by decide +kernel
theorem dX13_worst_0 : decode cX13_worst 0 = .ok (.aload_n 0, 1) := by decide +kernel
theorem dX13_worst_1 : decode cX13_worst 1 = .ok (.iconst 0, 1) := by decide +kernel
theorem dX13_worst_2 : decode cX13_worst 2 = .ok (.putfield 54, 3) := by decide +kernel
theorem dX13_worst_5 : decode cX13_worst 5 = .ok (.iconst 0, 1) := by decide +kernel
theorem dX13_worst_6 : decode cX13_worst 6 = .ok (.istore_n 2, 1) := by decide +kernel
theorem dX13_worst_7 : decode cX13_worst 7 = .ok (.iload_n 2, 1) := by decide +kernel
theorem dX13_worst_8 : decode cX13_worst 8 = .ok (.bipush 28, 2) := by decide +kernel
theorem dX13_worst_10 : decode cX13_worst 10 = .ok (.if_icmp .ge 113, 3) := by decide +kernel
theorem dX13_worst_13 : decode cX13_worst 13 = .ok (.iconst 0, 1) := by decide +kernel
theorem dX13_worst_14 : decode cX13_worst 14 = .ok (.istore_n 3, 1) := by decide +kernel
theorem dX13_worst_15 : decode cX13_worst 15 = .ok (.iconst 0, 1) := by decide +kernel
theorem dX13_worst_16 : decode cX13_worst 16 = .ok (.istore 4, 2) := by decide +kernel
theorem dX13_worst_18 : decode cX13_worst 18 = .ok (.iload 4, 2) := by decide +kernel
theorem dX13_worst_20 : decode cX13_worst 20 = .ok (.bipush 28, 2) := by decide +kernel
theorem dX13_worst_22 : decode cX13_worst 22 = .ok (.if_icmp .ge 67, 3) := by decide +kernel
theorem dX13_worst_25 : decode cX13_worst 25 = .ok (.iload_n 3, 1) := by decide +kernel
theorem dX13_worst_26 : decode cX13_worst 26 = .ok (.aload_n 0, 1) := by decide +kernel
theorem dX13_worst_27 : decode cX13_worst 27 = .ok (.getfield 7, 3) := by decide +kernel
theorem dX13_worst_30 : decode cX13_worst 30 = .ok (.bipush 62, 2) := by decide +kernel
theorem dX13_worst_32 : decode cX13_worst 32 = .ok (.iload 4, 2) := by decide +kernel
theorem dX13_worst_34 : decode cX13_worst 34 = .ok (.iadd, 1) := by decide +kernel
theorem dX13_worst_35 : decode cX13_worst 35 = .ok (.iaload, 1) := by decide +kernel
theorem dX13_worst_36 : decode cX13_worst 36 = .ok (.aload_n 0, 1) := by decide +kernel
theorem dX13_worst_37 : decode cX13_worst 37 = .ok (.getfield 7, 3) := by decide +kernel
theorem dX13_worst_40 : decode cX13_worst 40 = .ok (.bipush 62, 2) := by decide +kernel
theorem dX13_worst_42 : decode cX13_worst 42 = .ok (.iload_n 2, 1) := by decide +kernel
theorem dX13_worst_43 : decode cX13_worst 43 = .ok (.iadd, 1) := by decide +kernel
theorem dX13_worst_44 : decode cX13_worst 44 = .ok (.iaload, 1) := by decide +kernel
theorem dX13_worst_45 : decode cX13_worst 45 = .ok (.if_icmp .gt 31, 3) := by decide +kernel
theorem dX13_worst_48 : decode cX13_worst 48 = .ok (.aload_n 0, 1) := by decide +kernel
theorem dX13_worst_49 : decode cX13_worst 49 = .ok (.getfield 7, 3) := by decide +kernel
theorem dX13_worst_52 : decode cX13_worst 52 = .ok (.bipush 62, 2) := by decide +kernel
theorem dX13_worst_54 : decode cX13_worst 54 = .ok (.iload 4, 2) := by decide +kernel
theorem dX13_worst_56 : decode cX13_worst 56 = .ok (.iadd, 1) := by decide +kernel
theorem dX13_worst_57 : decode cX13_worst 57 = .ok (.iaload, 1) := by decide +kernel
theorem dX13_worst_58 : decode cX13_worst 58 = .ok (.aload_n 0, 1) := by decide +kernel
theorem dX13_worst_59 : decode cX13_worst 59 = .ok (.getfield 7, 3) := by decide +kernel
theorem dX13_worst_62 : decode cX13_worst 62 = .ok (.bipush 62, 2) := by decide +kernel
theorem dX13_worst_64 : decode cX13_worst 64 = .ok (.iload_n 2, 1) := by decide +kernel
theorem dX13_worst_65 : decode cX13_worst 65 = .ok (.iadd, 1) := by decide +kernel
theorem dX13_worst_66 : decode cX13_worst 66 = .ok (.iaload, 1) := by decide +kernel
theorem dX13_worst_67 : decode cX13_worst 67 = .ok (.if_icmp .ne 13, 3) := by decide +kernel
theorem dX13_worst_70 : decode cX13_worst 70 = .ok (.iload 4, 2) := by decide +kernel
theorem dX13_worst_72 : decode cX13_worst 72 = .ok (.iload_n 2, 1) := by decide +kernel
theorem dX13_worst_73 : decode cX13_worst 73 = .ok (.if_icmp .ge 7, 3) := by decide +kernel
theorem dX13_worst_76 : decode cX13_worst 76 = .ok (.iconst 1, 1) := by decide +kernel
theorem dX13_worst_77 : decode cX13_worst 77 = .ok (.goto 4, 3) := by decide +kernel
theorem dX13_worst_80 : decode cX13_worst 80 = .ok (.iconst 0, 1) := by decide +kernel
theorem dX13_worst_81 : decode cX13_worst 81 = .ok (.iadd, 1) := by decide +kernel
theorem dX13_worst_82 : decode cX13_worst 82 = .ok (.istore_n 3, 1) := by decide +kernel
theorem dX13_worst_83 : decode cX13_worst 83 = .ok (.iinc 4 1, 3) := by decide +kernel
theorem dX13_worst_86 : decode cX13_worst 86 = .ok (.goto (-68), 3) := by decide +kernel
theorem dX13_worst_89 : decode cX13_worst 89 = .ok (.aload_n 0, 1) := by decide +kernel
theorem dX13_worst_90 : decode cX13_worst 90 = .ok (.getfield 7, 3) := by decide +kernel
theorem dX13_worst_93 : decode cX13_worst 93 = .ok (.bipush 62, 2) := by decide +kernel
theorem dX13_worst_95 : decode cX13_worst 95 = .ok (.iload_n 2, 1) := by decide +kernel
theorem dX13_worst_96 : decode cX13_worst 96 = .ok (.iadd, 1) := by decide +kernel
theorem dX13_worst_97 : decode cX13_worst 97 = .ok (.iaload, 1) := by decide +kernel
theorem dX13_worst_98 : decode cX13_worst 98 = .ok (.ifCond .le 19, 3) := by decide +kernel
theorem dX13_worst_101 : decode cX13_worst 101 = .ok (.iload_n 3, 1) := by decide +kernel
theorem dX13_worst_102 : decode cX13_worst 102 = .ok (.iload_n 1, 1) := by decide +kernel
theorem dX13_worst_103 : decode cX13_worst 103 = .ok (.if_icmp .ne 14, 3) := by decide +kernel
theorem dX13_worst_106 : decode cX13_worst 106 = .ok (.bipush 10, 2) := by decide +kernel
theorem dX13_worst_108 : decode cX13_worst 108 = .ok (.iload_n 2, 1) := by decide +kernel
theorem dX13_worst_109 : decode cX13_worst 109 = .ok (.iconst 4, 1) := by decide +kernel
theorem dX13_worst_110 : decode cX13_worst 110 = .ok (.idiv, 1) := by decide +kernel
theorem dX13_worst_111 : decode cX13_worst 111 = .ok (.imul, 1) := by decide +kernel
theorem dX13_worst_112 : decode cX13_worst 112 = .ok (.iload_n 2, 1) := by decide +kernel
theorem dX13_worst_113 : decode cX13_worst 113 = .ok (.iconst 4, 1) := by decide +kernel
theorem dX13_worst_114 : decode cX13_worst 114 = .ok (.irem, 1) := by decide +kernel
theorem dX13_worst_115 : decode cX13_worst 115 = .ok (.iadd, 1) := by decide +kernel
theorem dX13_worst_116 : decode cX13_worst 116 = .ok (.ireturn, 1) := by decide +kernel
theorem dX13_worst_117 : decode cX13_worst 117 = .ok (.iinc 2 1, 3) := by decide +kernel
theorem dX13_worst_120 : decode cX13_worst 120 = .ok (.goto (-113), 3) := by decide +kernel
theorem dX13_worst_123 : decode cX13_worst 123 = .ok (.aload_n 0, 1) := by decide +kernel
theorem dX13_worst_124 : decode cX13_worst 124 = .ok (.iconst 1, 1) := by decide +kernel
theorem dX13_worst_125 : decode cX13_worst 125 = .ok (.invokevirtual 289, 3) := by decide +kernel
theorem dX13_worst_128 : decode cX13_worst 128 = .ok (.ireturn, 1) := by decide +kernel
theorem dX13_outgoing_0 : decode cX13_outgoing 0 = .ok (.aload_n 0, 1) := by decide +kernel
theorem dX13_outgoing_1 : decode cX13_outgoing 1 = .ok (.iload_n 1, 1) := by decide +kernel
theorem dX13_outgoing_2 : decode cX13_outgoing 2 = .ok (.invokestatic 118, 3) := by decide +kernel
theorem dX13_outgoing_5 : decode cX13_outgoing 5 = .ok (.ifCond .eq 7, 3) := by decide +kernel
theorem dX13_outgoing_8 : decode cX13_outgoing 8 = .ok (.iconst 0, 1) := by decide +kernel
theorem dX13_outgoing_9 : decode cX13_outgoing 9 = .ok (.goto 4, 3) := by decide +kernel
theorem dX13_outgoing_12 : decode cX13_outgoing 12 = .ok (.iconst 1, 1) := by decide +kernel
theorem dX13_outgoing_13 : decode cX13_outgoing 13 = .ok (.putfield 54, 3) := by decide +kernel
theorem dX13_outgoing_16 : decode cX13_outgoing 16 = .ok (.aload_n 0, 1) := by decide +kernel
theorem dX13_outgoing_17 : decode cX13_outgoing 17 = .ok (.getfield 54, 3) := by decide +kernel
theorem dX13_outgoing_20 : decode cX13_outgoing 20 = .ok (.ifCond .le 5, 3) := by decide +kernel
theorem dX13_outgoing_23 : decode cX13_outgoing 23 = .ok (.iconst 0, 1) := by decide +kernel
theorem dX13_outgoing_24 : decode cX13_outgoing 24 = .ok (.ireturn, 1) := by decide +kernel
theorem dX13_outgoing_25 : decode cX13_outgoing 25 = .ok (.iconst 0, 1) := by decide +kernel
theorem dX13_outgoing_26 : decode cX13_outgoing 26 = .ok (.istore_n 2, 1) := by decide +kernel
theorem dX13_outgoing_27 : decode cX13_outgoing 27 = .ok (.iconst 0, 1) := by decide +kernel
theorem dX13_outgoing_28 : decode cX13_outgoing 28 = .ok (.istore_n 3, 1) := by decide +kernel
theorem dX13_outgoing_29 : decode cX13_outgoing 29 = .ok (.iconst 0, 1) := by decide +kernel
theorem dX13_outgoing_30 : decode cX13_outgoing 30 = .ok (.istore 4, 2) := by decide +kernel
theorem dX13_outgoing_32 : decode cX13_outgoing 32 = .ok (.iload 4, 2) := by decide +kernel
theorem dX13_outgoing_34 : decode cX13_outgoing 34 = .ok (.aload_n 0, 1) := by decide +kernel
theorem dX13_outgoing_35 : decode cX13_outgoing 35 = .ok (.getfield 7, 3) := by decide +kernel
theorem dX13_outgoing_38 : decode cX13_outgoing 38 = .ok (.iconst 0, 1) := by decide +kernel
theorem dX13_outgoing_39 : decode cX13_outgoing 39 = .ok (.iaload, 1) := by decide +kernel
theorem dX13_outgoing_40 : decode cX13_outgoing 40 = .ok (.if_icmp .ge 95, 3) := by decide +kernel
theorem dX13_outgoing_43 : decode cX13_outgoing 43 = .ok (.iconst 0, 1) := by decide +kernel
theorem dX13_outgoing_44 : decode cX13_outgoing 44 = .ok (.istore 5, 2) := by decide +kernel
theorem dX13_outgoing_46 : decode cX13_outgoing 46 = .ok (.aload_n 0, 1) := by decide +kernel
theorem dX13_outgoing_47 : decode cX13_outgoing 47 = .ok (.getfield 7, 3) := by decide +kernel
theorem dX13_outgoing_50 : decode cX13_outgoing 50 = .ok (.iload 4, 2) := by decide +kernel
theorem dX13_outgoing_52 : decode cX13_outgoing 52 = .ok (.iconst 0, 1) := by decide +kernel
theorem dX13_outgoing_53 : decode cX13_outgoing 53 = .ok (.invokestatic 72, 3) := by decide +kernel
theorem dX13_outgoing_56 : decode cX13_outgoing 56 = .ok (.iaload, 1) := by decide +kernel
theorem dX13_outgoing_57 : decode cX13_outgoing 57 = .ok (.iload_n 1, 1) := by decide +kernel
theorem dX13_outgoing_58 : decode cX13_outgoing 58 = .ok (.if_icmp .ne 71, 3) := by decide +kernel
theorem dX13_outgoing_61 : decode cX13_outgoing 61 = .ok (.iload 5, 2) := by decide +kernel
theorem dX13_outgoing_63 : decode cX13_outgoing 63 = .ok (.aload_n 0, 1) := by decide +kernel
theorem dX13_outgoing_64 : decode cX13_outgoing 64 = .ok (.iload 4, 2) := by decide +kernel
theorem dX13_outgoing_66 : decode cX13_outgoing 66 = .ok (.invokevirtual 80, 3) := by decide +kernel
theorem dX13_outgoing_69 : decode cX13_outgoing 69 = .ok (.if_icmp .ge 60, 3) := by decide +kernel
theorem dX13_outgoing_72 : decode cX13_outgoing 72 = .ok (.iload_n 2, 1) := by decide +kernel
theorem dX13_outgoing_73 : decode cX13_outgoing 73 = .ok (.aload_n 0, 1) := by decide +kernel
theorem dX13_outgoing_74 : decode cX13_outgoing 74 = .ok (.iload 4, 2) := by decide +kernel
theorem dX13_outgoing_76 : decode cX13_outgoing 76 = .ok (.iload 5, 2) := by decide +kernel
theorem dX13_outgoing_78 : decode cX13_outgoing 78 = .ok (.invokevirtual 93, 3) := by decide +kernel
theorem dX13_outgoing_81 : decode cX13_outgoing 81 = .ok (.iconst 4, 1) := by decide +kernel
theorem dX13_outgoing_82 : decode cX13_outgoing 82 = .ok (.if_icmp .ne 7, 3) := by decide +kernel
theorem dX13_outgoing_85 : decode cX13_outgoing 85 = .ok (.iconst 1, 1) := by decide +kernel
theorem dX13_outgoing_86 : decode cX13_outgoing 86 = .ok (.goto 4, 3) := by decide +kernel
theorem dX13_outgoing_89 : decode cX13_outgoing 89 = .ok (.iconst 0, 1) := by decide +kernel
theorem dX13_outgoing_90 : decode cX13_outgoing 90 = .ok (.iadd, 1) := by decide +kernel
theorem dX13_outgoing_91 : decode cX13_outgoing 91 = .ok (.istore_n 2, 1) := by decide +kernel
theorem dX13_outgoing_92 : decode cX13_outgoing 92 = .ok (.iload_n 3, 1) := by decide +kernel
theorem dX13_outgoing_93 : decode cX13_outgoing 93 = .ok (.aload_n 0, 1) := by decide +kernel
theorem dX13_outgoing_94 : decode cX13_outgoing 94 = .ok (.iload 4, 2) := by decide +kernel
theorem dX13_outgoing_96 : decode cX13_outgoing 96 = .ok (.iload 5, 2) := by decide +kernel
theorem dX13_outgoing_98 : decode cX13_outgoing 98 = .ok (.invokevirtual 93, 3) := by decide +kernel
theorem dX13_outgoing_101 : decode cX13_outgoing 101 = .ok (.iconst 4, 1) := by decide +kernel
theorem dX13_outgoing_102 : decode cX13_outgoing 102 = .ok (.if_icmp .ne 18, 3) := by decide +kernel
theorem dX13_outgoing_105 : decode cX13_outgoing 105 = .ok (.aload_n 0, 1) := by decide +kernel
theorem dX13_outgoing_106 : decode cX13_outgoing 106 = .ok (.iload 4, 2) := by decide +kernel
theorem dX13_outgoing_108 : decode cX13_outgoing 108 = .ok (.iload 5, 2) := by decide +kernel
theorem dX13_outgoing_110 : decode cX13_outgoing 110 = .ok (.invokevirtual 96, 3) := by decide +kernel
theorem dX13_outgoing_113 : decode cX13_outgoing 113 = .ok (.ifCond .eq 7, 3) := by decide +kernel
theorem dX13_outgoing_116 : decode cX13_outgoing 116 = .ok (.iconst 1, 1) := by decide +kernel
theorem dX13_outgoing_117 : decode cX13_outgoing 117 = .ok (.goto 4, 3) := by decide +kernel
theorem dX13_outgoing_120 : decode cX13_outgoing 120 = .ok (.iconst 0, 1) := by decide +kernel
theorem dX13_outgoing_121 : decode cX13_outgoing 121 = .ok (.iadd, 1) := by decide +kernel
theorem dX13_outgoing_122 : decode cX13_outgoing 122 = .ok (.istore_n 3, 1) := by decide +kernel
theorem dX13_outgoing_123 : decode cX13_outgoing 123 = .ok (.iinc 5 1, 3) := by decide +kernel
theorem dX13_outgoing_126 : decode cX13_outgoing 126 = .ok (.goto (-80), 3) := by decide +kernel
theorem dX13_outgoing_129 : decode cX13_outgoing 129 = .ok (.iinc 4 1, 3) := by decide +kernel
theorem dX13_outgoing_132 : decode cX13_outgoing 132 = .ok (.goto (-100), 3) := by decide +kernel
theorem dX13_outgoing_135 : decode cX13_outgoing 135 = .ok (.aload_n 0, 1) := by decide +kernel
theorem dX13_outgoing_136 : decode cX13_outgoing 136 = .ok (.iload_n 2, 1) := by decide +kernel
theorem dX13_outgoing_137 : decode cX13_outgoing 137 = .ok (.ifCond .ne 7, 3) := by decide +kernel
theorem dX13_outgoing_140 : decode cX13_outgoing 140 = .ok (.iconst 2, 1) := by decide +kernel
theorem dX13_outgoing_141 : decode cX13_outgoing 141 = .ok (.goto 4, 3) := by decide +kernel
theorem dX13_outgoing_144 : decode cX13_outgoing 144 = .ok (.iconst 0, 1) := by decide +kernel
theorem dX13_outgoing_145 : decode cX13_outgoing 145 = .ok (.putfield 54, 3) := by decide +kernel
theorem dX13_outgoing_148 : decode cX13_outgoing 148 = .ok (.iload_n 2, 1) := by decide +kernel
theorem dX13_outgoing_149 : decode cX13_outgoing 149 = .ok (.ifCond .ne 7, 3) := by decide +kernel
theorem dX13_outgoing_152 : decode cX13_outgoing 152 = .ok (.iconst 0, 1) := by decide +kernel
theorem dX13_outgoing_153 : decode cX13_outgoing 153 = .ok (.goto 11, 3) := by decide +kernel
theorem dX13_outgoing_156 : decode cX13_outgoing 156 = .ok (.iload_n 3, 1) := by decide +kernel
theorem dX13_outgoing_157 : decode cX13_outgoing 157 = .ok (.i2f, 1) := by decide +kernel
theorem dX13_outgoing_158 : decode cX13_outgoing 158 = .ok (.iload_n 2, 1) := by decide +kernel
theorem dX13_outgoing_159 : decode cX13_outgoing 159 = .ok (.i2f, 1) := by decide +kernel
theorem dX13_outgoing_160 : decode cX13_outgoing 160 = .ok (.fdiv, 1) := by decide +kernel
theorem dX13_outgoing_161 : decode cX13_outgoing 161 = .ok (.invokestatic 292, 3) := by decide +kernel
theorem dX13_outgoing_164 : decode cX13_outgoing 164 = .ok (.ireturn, 1) := by decide +kernel
theorem dX13_foundShare_0 : decode cX13_foundShare 0 = .ok (.aload_n 0, 1) := by decide +kernel
theorem dX13_foundShare_1 : decode cX13_foundShare 1 = .ok (.iload_n 1, 1) := by decide +kernel
theorem dX13_foundShare_2 : decode cX13_foundShare 2 = .ok (.invokestatic 118, 3) := by decide +kernel
theorem dX13_foundShare_5 : decode cX13_foundShare 5 = .ok (.ifCond .eq 29, 3) := by decide +kernel
theorem dX13_foundShare_8 : decode cX13_foundShare 8 = .ok (.aload_n 0, 1) := by decide +kernel
theorem dX13_foundShare_9 : decode cX13_foundShare 9 = .ok (.getfield 7, 3) := by decide +kernel
theorem dX13_foundShare_12 : decode cX13_foundShare 12 = .ok (.bipush 22, 2) := by decide +kernel
theorem dX13_foundShare_14 : decode cX13_foundShare 14 = .ok (.bipush 10, 2) := by decide +kernel
theorem dX13_foundShare_16 : decode cX13_foundShare 16 = .ok (.iload_n 1, 1) := by decide +kernel
theorem dX13_foundShare_17 : decode cX13_foundShare 17 = .ok (.imul, 1) := by decide +kernel
theorem dX13_foundShare_18 : decode cX13_foundShare 18 = .ok (.iadd, 1) := by decide +kernel
theorem dX13_foundShare_19 : decode cX13_foundShare 19 = .ok (.bipush 8, 2) := by decide +kernel
theorem dX13_foundShare_21 : decode cX13_foundShare 21 = .ok (.iadd, 1) := by decide +kernel
theorem dX13_foundShare_22 : decode cX13_foundShare 22 = .ok (.iaload, 1) := by decide +kernel
theorem dX13_foundShare_23 : decode cX13_foundShare 23 = .ok (.ifCond .ne 7, 3) := by decide +kernel
theorem dX13_foundShare_26 : decode cX13_foundShare 26 = .ok (.iconst 2, 1) := by decide +kernel
theorem dX13_foundShare_27 : decode cX13_foundShare 27 = .ok (.goto 8, 3) := by decide +kernel
theorem dX13_foundShare_30 : decode cX13_foundShare 30 = .ok (.iconst 0, 1) := by decide +kernel
theorem dX13_foundShare_31 : decode cX13_foundShare 31 = .ok (.goto 4, 3) := by decide +kernel
theorem dX13_foundShare_34 : decode cX13_foundShare 34 = .ok (.iconst 1, 1) := by decide +kernel
theorem dX13_foundShare_35 : decode cX13_foundShare 35 = .ok (.putfield 54, 3) := by decide +kernel
theorem dX13_foundShare_38 : decode cX13_foundShare 38 = .ok (.aload_n 0, 1) := by decide +kernel
theorem dX13_foundShare_39 : decode cX13_foundShare 39 = .ok (.getfield 54, 3) := by decide +kernel
theorem dX13_foundShare_42 : decode cX13_foundShare 42 = .ok (.ifCond .le 7, 3) := by decide +kernel
theorem dX13_foundShare_45 : decode cX13_foundShare 45 = .ok (.lconst 0, 1) := by decide +kernel
theorem dX13_foundShare_46 : decode cX13_foundShare 46 = .ok (.goto 39, 3) := by decide +kernel
theorem dX13_foundShare_49 : decode cX13_foundShare 49 = .ok (.aload_n 0, 1) := by decide +kernel
theorem dX13_foundShare_50 : decode cX13_foundShare 50 = .ok (.getfield 7, 3) := by decide +kernel
theorem dX13_foundShare_53 : decode cX13_foundShare 53 = .ok (.bipush 22, 2) := by decide +kernel
theorem dX13_foundShare_55 : decode cX13_foundShare 55 = .ok (.bipush 10, 2) := by decide +kernel
theorem dX13_foundShare_57 : decode cX13_foundShare 57 = .ok (.iload_n 1, 1) := by decide +kernel
theorem dX13_foundShare_58 : decode cX13_foundShare 58 = .ok (.imul, 1) := by decide +kernel
theorem dX13_foundShare_59 : decode cX13_foundShare 59 = .ok (.iadd, 1) := by decide +kernel
theorem dX13_foundShare_60 : decode cX13_foundShare 60 = .ok (.bipush 9, 2) := by decide +kernel
theorem dX13_foundShare_62 : decode cX13_foundShare 62 = .ok (.iadd, 1) := by decide +kernel
theorem dX13_foundShare_63 : decode cX13_foundShare 63 = .ok (.iaload, 1) := by decide +kernel
theorem dX13_foundShare_64 : decode cX13_foundShare 64 = .ok (.i2d, 1) := by decide +kernel
theorem dX13_foundShare_65 : decode cX13_foundShare 65 = .ok (.aload_n 0, 1) := by decide +kernel
theorem dX13_foundShare_66 : decode cX13_foundShare 66 = .ok (.getfield 7, 3) := by decide +kernel
theorem dX13_foundShare_69 : decode cX13_foundShare 69 = .ok (.bipush 22, 2) := by decide +kernel
theorem dX13_foundShare_71 : decode cX13_foundShare 71 = .ok (.bipush 10, 2) := by decide +kernel
theorem dX13_foundShare_73 : decode cX13_foundShare 73 = .ok (.iload_n 1, 1) := by decide +kernel
theorem dX13_foundShare_74 : decode cX13_foundShare 74 = .ok (.imul, 1) := by decide +kernel
theorem dX13_foundShare_75 : decode cX13_foundShare 75 = .ok (.iadd, 1) := by decide +kernel
theorem dX13_foundShare_76 : decode cX13_foundShare 76 = .ok (.bipush 8, 2) := by decide +kernel
theorem dX13_foundShare_78 : decode cX13_foundShare 78 = .ok (.iadd, 1) := by decide +kernel
theorem dX13_foundShare_79 : decode cX13_foundShare 79 = .ok (.iaload, 1) := by decide +kernel
theorem dX13_foundShare_80 : decode cX13_foundShare 80 = .ok (.i2d, 1) := by decide +kernel
theorem dX13_foundShare_81 : decode cX13_foundShare 81 = .ok (.ddiv, 1) := by decide +kernel
theorem dX13_foundShare_82 : decode cX13_foundShare 82 = .ok (.invokestatic 273, 3) := by decide +kernel
theorem dX13_foundShare_85 : decode cX13_foundShare 85 = .ok (.lreturn, 1) := by decide +kernel
theorem dX13_isDrawer_0 : decode cX13_isDrawer 0 = .ok (.iload_n 0, 1) := by decide +kernel
theorem dX13_isDrawer_1 : decode cX13_isDrawer 1 = .ok (.iconst 0, 1) := by decide +kernel
theorem dX13_isDrawer_2 : decode cX13_isDrawer 2 = .ok (.iconst 3, 1) := by decide +kernel
theorem dX13_isDrawer_3 : decode cX13_isDrawer 3 = .ok (.invokestatic 68, 3) := by decide +kernel
theorem dX13_isDrawer_6 : decode cX13_isDrawer 6 = .ok (.ireturn, 1) := by decide +kernel
theorem dX13_open_0 : decode cX13_open 0 = .ok (.aload_n 0, 1) := by decide +kernel
theorem dX13_open_1 : decode cX13_open 1 = .ok (.iload_n 1, 1) := by decide +kernel
theorem dX13_open_2 : decode cX13_open 2 = .ok (.invokestatic 298, 3) := by decide +kernel
theorem dX13_open_5 : decode cX13_open 5 = .ok (.ifCond .eq 20, 3) := by decide +kernel
theorem dX13_open_8 : decode cX13_open 8 = .ok (.iload_n 2, 1) := by decide +kernel
theorem dX13_open_9 : decode cX13_open 9 = .ok (.iconst 0, 1) := by decide +kernel
theorem dX13_open_10 : decode cX13_open 10 = .ok (.iconst 2, 1) := by decide +kernel
theorem dX13_open_11 : decode cX13_open 11 = .ok (.invokestatic 68, 3) := by decide +kernel
theorem dX13_open_14 : decode cX13_open 14 = .ok (.ifCond .eq 7, 3) := by decide +kernel
theorem dX13_open_17 : decode cX13_open 17 = .ok (.iconst 0, 1) := by decide +kernel
theorem dX13_open_18 : decode cX13_open 18 = .ok (.goto 8, 3) := by decide +kernel
theorem dX13_open_21 : decode cX13_open 21 = .ok (.iconst 2, 1) := by decide +kernel
theorem dX13_open_22 : decode cX13_open 22 = .ok (.goto 4, 3) := by decide +kernel
theorem dX13_open_25 : decode cX13_open 25 = .ok (.iconst 1, 1) := by decide +kernel
theorem dX13_open_26 : decode cX13_open 26 = .ok (.putfield 54, 3) := by decide +kernel
theorem dX13_open_29 : decode cX13_open 29 = .ok (.aload_n 0, 1) := by decide +kernel
theorem dX13_open_30 : decode cX13_open 30 = .ok (.getfield 54, 3) := by decide +kernel
theorem dX13_open_33 : decode cX13_open 33 = .ok (.ifCond .le 5, 3) := by decide +kernel
theorem dX13_open_36 : decode cX13_open 36 = .ok (.iconst 0, 1) := by decide +kernel
theorem dX13_open_37 : decode cX13_open 37 = .ok (.ireturn, 1) := by decide +kernel
theorem dX13_open_38 : decode cX13_open 38 = .ok (.aload_n 0, 1) := by decide +kernel
theorem dX13_open_39 : decode cX13_open 39 = .ok (.getfield 34, 3) := by decide +kernel
theorem dX13_open_42 : decode cX13_open 42 = .ok (.bipush 22, 2) := by decide +kernel
theorem dX13_open_44 : decode cX13_open 44 = .ok (.iload_n 1, 1) := by decide +kernel
theorem dX13_open_45 : decode cX13_open 45 = .ok (.imul, 1) := by decide +kernel
theorem dX13_open_46 : decode cX13_open 46 = .ok (.iconst 1, 1) := by decide +kernel
theorem dX13_open_47 : decode cX13_open 47 = .ok (.iadd, 1) := by decide +kernel
theorem dX13_open_48 : decode cX13_open 48 = .ok (.iaload, 1) := by decide +kernel
theorem dX13_open_49 : decode cX13_open 49 = .ok (.istore_n 3, 1) := by decide +kernel
theorem dX13_open_50 : decode cX13_open 50 = .ok (.aload_n 0, 1) := by decide +kernel
theorem dX13_open_51 : decode cX13_open 51 = .ok (.getfield 34, 3) := by decide +kernel
theorem dX13_open_54 : decode cX13_open 54 = .ok (.bipush 22, 2) := by decide +kernel
theorem dX13_open_56 : decode cX13_open 56 = .ok (.iload_n 1, 1) := by decide +kernel
theorem dX13_open_57 : decode cX13_open 57 = .ok (.imul, 1) := by decide +kernel
theorem dX13_open_58 : decode cX13_open 58 = .ok (.iload_n 2, 1) := by decide +kernel
theorem dX13_open_59 : decode cX13_open 59 = .ok (.iastore, 1) := by decide +kernel
theorem dX13_open_60 : decode cX13_open 60 = .ok (.aload_n 0, 1) := by decide +kernel
theorem dX13_open_61 : decode cX13_open 61 = .ok (.getfield 34, 3) := by decide +kernel
theorem dX13_open_64 : decode cX13_open 64 = .ok (.bipush 22, 2) := by decide +kernel
theorem dX13_open_66 : decode cX13_open 66 = .ok (.iload_n 1, 1) := by decide +kernel
theorem dX13_open_67 : decode cX13_open 67 = .ok (.imul, 1) := by decide +kernel
theorem dX13_open_68 : decode cX13_open 68 = .ok (.iconst 1, 1) := by decide +kernel
theorem dX13_open_69 : decode cX13_open 69 = .ok (.iadd, 1) := by decide +kernel
theorem dX13_open_70 : decode cX13_open 70 = .ok (.iconst 0, 1) := by decide +kernel
theorem dX13_open_71 : decode cX13_open 71 = .ok (.iastore, 1) := by decide +kernel
theorem dX13_open_72 : decode cX13_open 72 = .ok (.iload_n 3, 1) := by decide +kernel
theorem dX13_open_73 : decode cX13_open 73 = .ok (.ireturn, 1) := by decide +kernel
theorem dX13_fits_0 : decode cX13_fits 0 = .ok (.iload_n 1, 1) := by decide +kernel
theorem dX13_fits_1 : decode cX13_fits 1 = .ok (.ifCond .eq 27, 3) := by decide +kernel
theorem dX13_fits_4 : decode cX13_fits 4 = .ok (.aload_n 0, 1) := by decide +kernel
theorem dX13_fits_5 : decode cX13_fits 5 = .ok (.iload_n 2, 1) := by decide +kernel
theorem dX13_fits_6 : decode cX13_fits 6 = .ok (.iload_n 3, 1) := by decide +kernel
theorem dX13_fits_7 : decode cX13_fits 7 = .ok (.invokevirtual 96, 3) := by decide +kernel
theorem dX13_fits_10 : decode cX13_fits 10 = .ok (.ifCond .eq 22, 3) := by decide +kernel
theorem dX13_fits_13 : decode cX13_fits 13 = .ok (.iload_n 1, 1) := by decide +kernel
theorem dX13_fits_14 : decode cX13_fits 14 = .ok (.iconst 1, 1) := by decide +kernel
theorem dX13_fits_15 : decode cX13_fits 15 = .ok (.if_icmp .eq 13, 3) := by decide +kernel
theorem dX13_fits_18 : decode cX13_fits 18 = .ok (.aload_n 0, 1) := by decide +kernel
theorem dX13_fits_19 : decode cX13_fits 19 = .ok (.iload_n 2, 1) := by decide +kernel
theorem dX13_fits_20 : decode cX13_fits 20 = .ok (.iload_n 3, 1) := by decide +kernel
theorem dX13_fits_21 : decode cX13_fits 21 = .ok (.invokevirtual 242, 3) := by decide +kernel
theorem dX13_fits_24 : decode cX13_fits 24 = .ok (.iconst 2, 1) := by decide +kernel
theorem dX13_fits_25 : decode cX13_fits 25 = .ok (.if_icmp .ne 7, 3) := by decide +kernel
theorem dX13_fits_28 : decode cX13_fits 28 = .ok (.iconst 1, 1) := by decide +kernel
theorem dX13_fits_29 : decode cX13_fits 29 = .ok (.goto 4, 3) := by decide +kernel
theorem dX13_fits_32 : decode cX13_fits 32 = .ok (.iconst 0, 1) := by decide +kernel
theorem dX13_fits_33 : decode cX13_fits 33 = .ok (.ireturn, 1) := by decide +kernel
theorem dX13_keep_0 : decode cX13_keep 0 = .ok (.aload_n 0, 1) := by decide +kernel
theorem dX13_keep_1 : decode cX13_keep 1 = .ok (.iload_n 1, 1) := by decide +kernel
theorem dX13_keep_2 : decode cX13_keep 2 = .ok (.invokestatic 298, 3) := by decide +kernel
theorem dX13_keep_5 : decode cX13_keep 5 = .ok (.ifCond .eq 12, 3) := by decide +kernel
theorem dX13_keep_8 : decode cX13_keep 8 = .ok (.aload_n 0, 1) := by decide +kernel
theorem dX13_keep_9 : decode cX13_keep 9 = .ok (.iload_n 2, 1) := by decide +kernel
theorem dX13_keep_10 : decode cX13_keep 10 = .ok (.iload_n 3, 1) := by decide +kernel
theorem dX13_keep_11 : decode cX13_keep 11 = .ok (.invokevirtual 218, 3) := by decide +kernel
theorem dX13_keep_14 : decode cX13_keep 14 = .ok (.ifCond .ne 7, 3) := by decide +kernel
theorem dX13_keep_17 : decode cX13_keep 17 = .ok (.iconst 1, 1) := by decide +kernel
theorem dX13_keep_18 : decode cX13_keep 18 = .ok (.goto 45, 3) := by decide +kernel
theorem dX13_keep_21 : decode cX13_keep 21 = .ok (.aload_n 0, 1) := by decide +kernel
theorem dX13_keep_22 : decode cX13_keep 22 = .ok (.getfield 34, 3) := by decide +kernel
theorem dX13_keep_25 : decode cX13_keep 25 = .ok (.bipush 22, 2) := by decide +kernel
theorem dX13_keep_27 : decode cX13_keep 27 = .ok (.iload_n 1, 1) := by decide +kernel
theorem dX13_keep_28 : decode cX13_keep 28 = .ok (.imul, 1) := by decide +kernel
theorem dX13_keep_29 : decode cX13_keep 29 = .ok (.iconst 1, 1) := by decide +kernel
theorem dX13_keep_30 : decode cX13_keep 30 = .ok (.iadd, 1) := by decide +kernel
theorem dX13_keep_31 : decode cX13_keep 31 = .ok (.iaload, 1) := by decide +kernel
theorem dX13_keep_32 : decode cX13_keep 32 = .ok (.iconst 5, 1) := by decide +kernel
theorem dX13_keep_33 : decode cX13_keep 33 = .ok (.if_icmp .ne 7, 3) := by decide +kernel
theorem dX13_keep_36 : decode cX13_keep 36 = .ok (.iconst 2, 1) := by decide +kernel
theorem dX13_keep_37 : decode cX13_keep 37 = .ok (.goto 26, 3) := by decide +kernel
theorem dX13_keep_40 : decode cX13_keep 40 = .ok (.aload_n 0, 1) := by decide +kernel
theorem dX13_keep_41 : decode cX13_keep 41 = .ok (.aload_n 0, 1) := by decide +kernel
theorem dX13_keep_42 : decode cX13_keep 42 = .ok (.getfield 34, 3) := by decide +kernel
theorem dX13_keep_45 : decode cX13_keep 45 = .ok (.bipush 22, 2) := by decide +kernel
theorem dX13_keep_47 : decode cX13_keep 47 = .ok (.iload_n 1, 1) := by decide +kernel
theorem dX13_keep_48 : decode cX13_keep 48 = .ok (.imul, 1) := by decide +kernel
theorem dX13_keep_49 : decode cX13_keep 49 = .ok (.iaload, 1) := by decide +kernel
theorem dX13_keep_50 : decode cX13_keep 50 = .ok (.iload_n 2, 1) := by decide +kernel
theorem dX13_keep_51 : decode cX13_keep 51 = .ok (.iload_n 3, 1) := by decide +kernel
theorem dX13_keep_52 : decode cX13_keep 52 = .ok (.invokevirtual 301, 3) := by decide +kernel
theorem dX13_keep_55 : decode cX13_keep 55 = .ok (.ifCond .eq 7, 3) := by decide +kernel
theorem dX13_keep_58 : decode cX13_keep 58 = .ok (.iconst 0, 1) := by decide +kernel
theorem dX13_keep_59 : decode cX13_keep 59 = .ok (.goto 4, 3) := by decide +kernel
theorem dX13_keep_62 : decode cX13_keep 62 = .ok (.iconst 3, 1) := by decide +kernel
theorem dX13_keep_63 : decode cX13_keep 63 = .ok (.putfield 54, 3) := by decide +kernel
theorem dX13_keep_66 : decode cX13_keep 66 = .ok (.aload_n 0, 1) := by decide +kernel
theorem dX13_keep_67 : decode cX13_keep 67 = .ok (.getfield 54, 3) := by decide +kernel
theorem dX13_keep_70 : decode cX13_keep 70 = .ok (.ifCond .le 5, 3) := by decide +kernel
theorem dX13_keep_73 : decode cX13_keep 73 = .ok (.iconst 0, 1) := by decide +kernel
theorem dX13_keep_74 : decode cX13_keep 74 = .ok (.ireturn, 1) := by decide +kernel
theorem dX13_keep_75 : decode cX13_keep 75 = .ok (.bipush 22, 2) := by decide +kernel
theorem dX13_keep_77 : decode cX13_keep 77 = .ok (.iload_n 1, 1) := by decide +kernel
theorem dX13_keep_78 : decode cX13_keep 78 = .ok (.imul, 1) := by decide +kernel
theorem dX13_keep_79 : decode cX13_keep 79 = .ok (.iconst 2, 1) := by decide +kernel
theorem dX13_keep_80 : decode cX13_keep 80 = .ok (.iadd, 1) := by decide +kernel
theorem dX13_keep_81 : decode cX13_keep 81 = .ok (.iconst 4, 1) := by decide +kernel
theorem dX13_keep_82 : decode cX13_keep 82 = .ok (.aload_n 0, 1) := by decide +kernel
theorem dX13_keep_83 : decode cX13_keep 83 = .ok (.getfield 34, 3) := by decide +kernel
theorem dX13_keep_86 : decode cX13_keep 86 = .ok (.bipush 22, 2) := by decide +kernel
theorem dX13_keep_88 : decode cX13_keep 88 = .ok (.iload_n 1, 1) := by decide +kernel
theorem dX13_keep_89 : decode cX13_keep 89 = .ok (.imul, 1) := by decide +kernel
theorem dX13_keep_90 : decode cX13_keep 90 = .ok (.iconst 1, 1) := by decide +kernel
theorem dX13_keep_91 : decode cX13_keep 91 = .ok (.iadd, 1) := by decide +kernel
theorem dX13_keep_92 : decode cX13_keep 92 = .ok (.iaload, 1) := by decide +kernel
theorem dX13_keep_93 : decode cX13_keep 93 = .ok (.imul, 1) := by decide +kernel
theorem dX13_keep_94 : decode cX13_keep 94 = .ok (.iadd, 1) := by decide +kernel
theorem dX13_keep_95 : decode cX13_keep 95 = .ok (.istore 4, 2) := by decide +kernel
theorem dX13_keep_97 : decode cX13_keep 97 = .ok (.aload_n 0, 1) := by decide +kernel
theorem dX13_keep_98 : decode cX13_keep 98 = .ok (.getfield 34, 3) := by decide +kernel
theorem dX13_keep_101 : decode cX13_keep 101 = .ok (.iload 4, 2) := by decide +kernel
theorem dX13_keep_103 : decode cX13_keep 103 = .ok (.iload_n 2, 1) := by decide +kernel
theorem dX13_keep_104 : decode cX13_keep 104 = .ok (.iastore, 1) := by decide +kernel
theorem dX13_keep_105 : decode cX13_keep 105 = .ok (.aload_n 0, 1) := by decide +kernel
theorem dX13_keep_106 : decode cX13_keep 106 = .ok (.getfield 34, 3) := by decide +kernel
theorem dX13_keep_109 : decode cX13_keep 109 = .ok (.iload 4, 2) := by decide +kernel
theorem dX13_keep_111 : decode cX13_keep 111 = .ok (.iconst 1, 1) := by decide +kernel
theorem dX13_keep_112 : decode cX13_keep 112 = .ok (.iadd, 1) := by decide +kernel
theorem dX13_keep_113 : decode cX13_keep 113 = .ok (.iload_n 3, 1) := by decide +kernel
theorem dX13_keep_114 : decode cX13_keep 114 = .ok (.iastore, 1) := by decide +kernel
theorem dX13_keep_115 : decode cX13_keep 115 = .ok (.aload_n 0, 1) := by decide +kernel
theorem dX13_keep_116 : decode cX13_keep 116 = .ok (.getfield 34, 3) := by decide +kernel
theorem dX13_keep_119 : decode cX13_keep 119 = .ok (.iload 4, 2) := by decide +kernel
theorem dX13_keep_121 : decode cX13_keep 121 = .ok (.iconst 2, 1) := by decide +kernel
theorem dX13_keep_122 : decode cX13_keep 122 = .ok (.iadd, 1) := by decide +kernel
theorem dX13_keep_123 : decode cX13_keep 123 = .ok (.aload_n 0, 1) := by decide +kernel
theorem dX13_keep_124 : decode cX13_keep 124 = .ok (.iload_n 2, 1) := by decide +kernel
theorem dX13_keep_125 : decode cX13_keep 125 = .ok (.iload_n 3, 1) := by decide +kernel
theorem dX13_keep_126 : decode cX13_keep 126 = .ok (.invokevirtual 87, 3) := by decide +kernel
theorem dX13_keep_129 : decode cX13_keep 129 = .ok (.iastore, 1) := by decide +kernel
theorem dX13_keep_130 : decode cX13_keep 130 = .ok (.aload_n 0, 1) := by decide +kernel
theorem dX13_keep_131 : decode cX13_keep 131 = .ok (.getfield 34, 3) := by decide +kernel
theorem dX13_keep_134 : decode cX13_keep 134 = .ok (.iload 4, 2) := by decide +kernel
theorem dX13_keep_136 : decode cX13_keep 136 = .ok (.iconst 3, 1) := by decide +kernel
theorem dX13_keep_137 : decode cX13_keep 137 = .ok (.iadd, 1) := by decide +kernel
theorem dX13_keep_138 : decode cX13_keep 138 = .ok (.aload_n 0, 1) := by decide +kernel
theorem dX13_keep_139 : decode cX13_keep 139 = .ok (.iload_n 2, 1) := by decide +kernel
theorem dX13_keep_140 : decode cX13_keep 140 = .ok (.iload_n 3, 1) := by decide +kernel
theorem dX13_keep_141 : decode cX13_keep 141 = .ok (.invokevirtual 242, 3) := by decide +kernel
theorem dX13_keep_144 : decode cX13_keep 144 = .ok (.iastore, 1) := by decide +kernel
theorem dX13_keep_145 : decode cX13_keep 145 = .ok (.aload_n 0, 1) := by decide +kernel
theorem dX13_keep_146 : decode cX13_keep 146 = .ok (.getfield 34, 3) := by decide +kernel
theorem dX13_keep_149 : decode cX13_keep 149 = .ok (.bipush 22, 2) := by decide +kernel
theorem dX13_keep_151 : decode cX13_keep 151 = .ok (.iload_n 1, 1) := by decide +kernel
theorem dX13_keep_152 : decode cX13_keep 152 = .ok (.imul, 1) := by decide +kernel
theorem dX13_keep_153 : decode cX13_keep 153 = .ok (.iconst 1, 1) := by decide +kernel
theorem dX13_keep_154 : decode cX13_keep 154 = .ok (.iadd, 1) := by decide +kernel
theorem dX13_keep_155 : decode cX13_keep 155 = .ok (.dup2, 1) := by decide +kernel
theorem dX13_keep_156 : decode cX13_keep 156 = .ok (.iaload, 1) := by decide +kernel
theorem dX13_keep_157 : decode cX13_keep 157 = .ok (.iconst 1, 1) := by decide +kernel
theorem dX13_keep_158 : decode cX13_keep 158 = .ok (.iadd, 1) := by decide +kernel
theorem dX13_keep_159 : decode cX13_keep 159 = .ok (.iastore, 1) := by decide +kernel
theorem dX13_keep_160 : decode cX13_keep 160 = .ok (.aload_n 0, 1) := by decide +kernel
theorem dX13_keep_161 : decode cX13_keep 161 = .ok (.getfield 34, 3) := by decide +kernel
theorem dX13_keep_164 : decode cX13_keep 164 = .ok (.bipush 22, 2) := by decide +kernel
theorem dX13_keep_166 : decode cX13_keep 166 = .ok (.iload_n 1, 1) := by decide +kernel
theorem dX13_keep_167 : decode cX13_keep 167 = .ok (.imul, 1) := by decide +kernel
theorem dX13_keep_168 : decode cX13_keep 168 = .ok (.iconst 1, 1) := by decide +kernel
theorem dX13_keep_169 : decode cX13_keep 169 = .ok (.iadd, 1) := by decide +kernel
theorem dX13_keep_170 : decode cX13_keep 170 = .ok (.iaload, 1) := by decide +kernel
theorem dX13_keep_171 : decode cX13_keep 171 = .ok (.ireturn, 1) := by decide +kernel
theorem dX13_specimen_0 : decode cX13_specimen 0 = .ok (.aload_n 0, 1) := by decide +kernel
theorem dX13_specimen_1 : decode cX13_specimen 1 = .ok (.iload_n 1, 1) := by decide +kernel
theorem dX13_specimen_2 : decode cX13_specimen 2 = .ok (.invokestatic 298, 3) := by decide +kernel
theorem dX13_specimen_5 : decode cX13_specimen 5 = .ok (.ifCond .eq 41, 3) := by decide +kernel
theorem dX13_specimen_8 : decode cX13_specimen 8 = .ok (.iload_n 2, 1) := by decide +kernel
theorem dX13_specimen_9 : decode cX13_specimen 9 = .ok (.iconst 0, 1) := by decide +kernel
theorem dX13_specimen_10 : decode cX13_specimen 10 = .ok (.aload_n 0, 1) := by decide +kernel
theorem dX13_specimen_11 : decode cX13_specimen 11 = .ok (.getfield 34, 3) := by decide +kernel
theorem dX13_specimen_14 : decode cX13_specimen 14 = .ok (.bipush 22, 2) := by decide +kernel
theorem dX13_specimen_16 : decode cX13_specimen 16 = .ok (.iload_n 1, 1) := by decide +kernel
theorem dX13_specimen_17 : decode cX13_specimen 17 = .ok (.imul, 1) := by decide +kernel
theorem dX13_specimen_18 : decode cX13_specimen 18 = .ok (.iconst 1, 1) := by decide +kernel
theorem dX13_specimen_19 : decode cX13_specimen 19 = .ok (.iadd, 1) := by decide +kernel
theorem dX13_specimen_20 : decode cX13_specimen 20 = .ok (.iaload, 1) := by decide +kernel
theorem dX13_specimen_21 : decode cX13_specimen 21 = .ok (.iconst 1, 1) := by decide +kernel
theorem dX13_specimen_22 : decode cX13_specimen 22 = .ok (.isub, 1) := by decide +kernel
theorem dX13_specimen_23 : decode cX13_specimen 23 = .ok (.invokestatic 68, 3) := by decide +kernel
theorem dX13_specimen_26 : decode cX13_specimen 26 = .ok (.ifCond .eq 20, 3) := by decide +kernel
theorem dX13_specimen_29 : decode cX13_specimen 29 = .ok (.iload_n 3, 1) := by decide +kernel
theorem dX13_specimen_30 : decode cX13_specimen 30 = .ok (.iconst 0, 1) := by decide +kernel
theorem dX13_specimen_31 : decode cX13_specimen 31 = .ok (.iconst 3, 1) := by decide +kernel
theorem dX13_specimen_32 : decode cX13_specimen 32 = .ok (.invokestatic 68, 3) := by decide +kernel
theorem dX13_specimen_35 : decode cX13_specimen 35 = .ok (.ifCond .eq 7, 3) := by decide +kernel
theorem dX13_specimen_38 : decode cX13_specimen 38 = .ok (.iconst 0, 1) := by decide +kernel
theorem dX13_specimen_39 : decode cX13_specimen 39 = .ok (.goto 8, 3) := by decide +kernel
theorem dX13_specimen_42 : decode cX13_specimen 42 = .ok (.iconst 2, 1) := by decide +kernel
theorem dX13_specimen_43 : decode cX13_specimen 43 = .ok (.goto 4, 3) := by decide +kernel
theorem dX13_specimen_46 : decode cX13_specimen 46 = .ok (.iconst 1, 1) := by decide +kernel
theorem dX13_specimen_47 : decode cX13_specimen 47 = .ok (.putfield 54, 3) := by decide +kernel
theorem dX13_specimen_50 : decode cX13_specimen 50 = .ok (.aload_n 0, 1) := by decide +kernel
theorem dX13_specimen_51 : decode cX13_specimen 51 = .ok (.getfield 54, 3) := by decide +kernel
theorem dX13_specimen_54 : decode cX13_specimen 54 = .ok (.ifCond .le 7, 3) := by decide +kernel
theorem dX13_specimen_57 : decode cX13_specimen 57 = .ok (.iconst 0, 1) := by decide +kernel
theorem dX13_specimen_58 : decode cX13_specimen 58 = .ok (.goto 20, 3) := by decide +kernel
theorem dX13_specimen_61 : decode cX13_specimen 61 = .ok (.aload_n 0, 1) := by decide +kernel
theorem dX13_specimen_62 : decode cX13_specimen 62 = .ok (.getfield 34, 3) := by decide +kernel
theorem dX13_specimen_65 : decode cX13_specimen 65 = .ok (.bipush 22, 2) := by decide +kernel
theorem dX13_specimen_67 : decode cX13_specimen 67 = .ok (.iload_n 1, 1) := by decide +kernel
theorem dX13_specimen_68 : decode cX13_specimen 68 = .ok (.imul, 1) := by decide +kernel
theorem dX13_specimen_69 : decode cX13_specimen 69 = .ok (.iconst 2, 1) := by decide +kernel
theorem dX13_specimen_70 : decode cX13_specimen 70 = .ok (.iadd, 1) := by decide +kernel
theorem dX13_specimen_71 : decode cX13_specimen 71 = .ok (.iconst 4, 1) := by decide +kernel
theorem dX13_specimen_72 : decode cX13_specimen 72 = .ok (.iload_n 2, 1) := by decide +kernel
theorem dX13_specimen_73 : decode cX13_specimen 73 = .ok (.imul, 1) := by decide +kernel
theorem dX13_specimen_74 : decode cX13_specimen 74 = .ok (.iadd, 1) := by decide +kernel
theorem dX13_specimen_75 : decode cX13_specimen 75 = .ok (.iload_n 3, 1) := by decide +kernel
theorem dX13_specimen_76 : decode cX13_specimen 76 = .ok (.iadd, 1) := by decide +kernel
theorem dX13_specimen_77 : decode cX13_specimen 77 = .ok (.iaload, 1) := by decide +kernel
theorem dX13_specimen_78 : decode cX13_specimen 78 = .ok (.ireturn, 1) := by decide +kernel
theorem dX13_byteOf_0 : decode cX13_byteOf 0 = .ok (.iload_n 0, 1) := by decide +kernel
theorem dX13_byteOf_1 : decode cX13_byteOf 1 = .ok (.bipush 24, 2) := by decide +kernel
theorem dX13_byteOf_3 : decode cX13_byteOf 3 = .ok (.bipush 8, 2) := by decide +kernel
theorem dX13_byteOf_5 : decode cX13_byteOf 5 = .ok (.iload_n 1, 1) := by decide +kernel
theorem dX13_byteOf_6 : decode cX13_byteOf 6 = .ok (.imul, 1) := by decide +kernel
theorem dX13_byteOf_7 : decode cX13_byteOf 7 = .ok (.isub, 1) := by decide +kernel
theorem dX13_byteOf_8 : decode cX13_byteOf 8 = .ok (.iushr, 1) := by decide +kernel
theorem dX13_byteOf_9 : decode cX13_byteOf 9 = .ok (.sipush 255, 3) := by decide +kernel
theorem dX13_byteOf_12 : decode cX13_byteOf 12 = .ok (.iand, 1) := by decide +kernel
theorem dX13_byteOf_13 : decode cX13_byteOf 13 = .ok (.ireturn, 1) := by decide +kernel
theorem dX13_append_0 : decode cX13_append 0 = .ok (.aload_n 0, 1) := by decide +kernel
theorem dX13_append_1 : decode cX13_append 1 = .ok (.iconst 0, 1) := by decide +kernel
theorem dX13_append_2 : decode cX13_append 2 = .ok (.putfield 54, 3) := by decide +kernel
theorem dX13_append_5 : decode cX13_append 5 = .ok (.iconst 0, 1) := by decide +kernel
theorem dX13_append_6 : decode cX13_append 6 = .ok (.istore_n 2, 1) := by decide +kernel
theorem dX13_append_7 : decode cX13_append 7 = .ok (.iconst 0, 1) := by decide +kernel
theorem dX13_append_8 : decode cX13_append 8 = .ok (.istore_n 3, 1) := by decide +kernel
theorem dX13_append_9 : decode cX13_append 9 = .ok (.iload_n 3, 1) := by decide +kernel
theorem dX13_append_10 : decode cX13_append 10 = .ok (.iconst 4, 1) := by decide +kernel
theorem dX13_append_11 : decode cX13_append 11 = .ok (.if_icmp .ge 54, 3) := by decide +kernel
theorem dX13_append_14 : decode cX13_append 14 = .ok (.iload_n 1, 1) := by decide +kernel
theorem dX13_append_15 : decode cX13_append 15 = .ok (.iload_n 3, 1) := by decide +kernel
theorem dX13_append_16 : decode cX13_append 16 = .ok (.invokestatic 304, 3) := by decide +kernel
theorem dX13_append_19 : decode cX13_append 19 = .ok (.ifCond .eq 24, 3) := by decide +kernel
theorem dX13_append_22 : decode cX13_append 22 = .ok (.iload_n 1, 1) := by decide +kernel
theorem dX13_append_23 : decode cX13_append 23 = .ok (.iload_n 3, 1) := by decide +kernel
theorem dX13_append_24 : decode cX13_append 24 = .ok (.invokestatic 304, 3) := by decide +kernel
theorem dX13_append_27 : decode cX13_append 27 = .ok (.bipush 33, 2) := by decide +kernel
theorem dX13_append_29 : decode cX13_append 29 = .ok (.bipush 126, 2) := by decide +kernel
theorem dX13_append_31 : decode cX13_append 31 = .ok (.invokestatic 68, 3) := by decide +kernel
theorem dX13_append_34 : decode cX13_append 34 = .ok (.ifCond .ne 9, 3) := by decide +kernel
theorem dX13_append_37 : decode cX13_append 37 = .ok (.aload_n 0, 1) := by decide +kernel
theorem dX13_append_38 : decode cX13_append 38 = .ok (.iconst 1, 1) := by decide +kernel
theorem dX13_append_39 : decode cX13_append 39 = .ok (.invokevirtual 289, 3) := by decide +kernel
theorem dX13_append_42 : decode cX13_append 42 = .ok (.ireturn, 1) := by decide +kernel
theorem dX13_append_43 : decode cX13_append 43 = .ok (.iload_n 2, 1) := by decide +kernel
theorem dX13_append_44 : decode cX13_append 44 = .ok (.iload_n 1, 1) := by decide +kernel
theorem dX13_append_45 : decode cX13_append 45 = .ok (.iload_n 3, 1) := by decide +kernel
theorem dX13_append_46 : decode cX13_append 46 = .ok (.invokestatic 304, 3) := by decide +kernel
theorem dX13_append_49 : decode cX13_append 49 = .ok (.ifCond .ne 7, 3) := by decide +kernel
theorem dX13_append_52 : decode cX13_append 52 = .ok (.iconst 0, 1) := by decide +kernel
theorem dX13_append_53 : decode cX13_append 53 = .ok (.goto 4, 3) := by decide +kernel
theorem dX13_append_56 : decode cX13_append 56 = .ok (.iconst 1, 1) := by decide +kernel
theorem dX13_append_57 : decode cX13_append 57 = .ok (.iadd, 1) := by decide +kernel
theorem dX13_append_58 : decode cX13_append 58 = .ok (.istore_n 2, 1) := by decide +kernel
theorem dX13_append_59 : decode cX13_append 59 = .ok (.iinc 3 1, 3) := by decide +kernel
theorem dX13_append_62 : decode cX13_append 62 = .ok (.goto (-53), 3) := by decide +kernel
theorem dX13_append_65 : decode cX13_append 65 = .ok (.aload_n 0, 1) := by decide +kernel
theorem dX13_append_66 : decode cX13_append 66 = .ok (.getfield 307, 3) := by decide +kernel
theorem dX13_append_69 : decode cX13_append 69 = .ok (.iload_n 2, 1) := by decide +kernel
theorem dX13_append_70 : decode cX13_append 70 = .ok (.iadd, 1) := by decide +kernel
theorem dX13_append_71 : decode cX13_append 71 = .ok (.bipush 60, 2) := by decide +kernel
theorem dX13_append_73 : decode cX13_append 73 = .ok (.if_icmp .le 9, 3) := by decide +kernel
theorem dX13_append_76 : decode cX13_append 76 = .ok (.aload_n 0, 1) := by decide +kernel
theorem dX13_append_77 : decode cX13_append 77 = .ok (.iconst 2, 1) := by decide +kernel
theorem dX13_append_78 : decode cX13_append 78 = .ok (.invokevirtual 289, 3) := by decide +kernel
theorem dX13_append_81 : decode cX13_append 81 = .ok (.ireturn, 1) := by decide +kernel
theorem dX13_append_82 : decode cX13_append 82 = .ok (.iconst 0, 1) := by decide +kernel
theorem dX13_append_83 : decode cX13_append 83 = .ok (.istore_n 3, 1) := by decide +kernel
theorem dX13_append_84 : decode cX13_append 84 = .ok (.iload_n 3, 1) := by decide +kernel
theorem dX13_append_85 : decode cX13_append 85 = .ok (.iconst 4, 1) := by decide +kernel
theorem dX13_append_86 : decode cX13_append 86 = .ok (.if_icmp .ge 41, 3) := by decide +kernel
theorem dX13_append_89 : decode cX13_append 89 = .ok (.iload_n 1, 1) := by decide +kernel
theorem dX13_append_90 : decode cX13_append 90 = .ok (.iload_n 3, 1) := by decide +kernel
theorem dX13_append_91 : decode cX13_append 91 = .ok (.invokestatic 304, 3) := by decide +kernel
theorem dX13_append_94 : decode cX13_append 94 = .ok (.ifCond .eq 27, 3) := by decide +kernel
theorem dX13_append_97 : decode cX13_append 97 = .ok (.aload_n 0, 1) := by decide +kernel
theorem dX13_append_98 : decode cX13_append 98 = .ok (.getfield 37, 3) := by decide +kernel
theorem dX13_append_101 : decode cX13_append 101 = .ok (.aload_n 0, 1) := by decide +kernel
theorem dX13_append_102 : decode cX13_append 102 = .ok (.getfield 307, 3) := by decide +kernel
theorem dX13_append_105 : decode cX13_append 105 = .ok (.iload_n 1, 1) := by decide +kernel
theorem dX13_append_106 : decode cX13_append 106 = .ok (.iload_n 3, 1) := by decide +kernel
theorem dX13_append_107 : decode cX13_append 107 = .ok (.invokestatic 304, 3) := by decide +kernel
theorem dX13_append_110 : decode cX13_append 110 = .ok (.iastore, 1) := by decide +kernel
theorem dX13_append_111 : decode cX13_append 111 = .ok (.aload_n 0, 1) := by decide +kernel
theorem dX13_append_112 : decode cX13_append 112 = .ok (.dup, 1) := by decide +kernel
theorem dX13_append_113 : decode cX13_append 113 = .ok (.getfield 307, 3) := by decide +kernel
theorem dX13_append_116 : decode cX13_append 116 = .ok (.iconst 1, 1) := by decide +kernel
theorem dX13_append_117 : decode cX13_append 117 = .ok (.iadd, 1) := by decide +kernel
theorem dX13_append_118 : decode cX13_append 118 = .ok (.putfield 307, 3) := by decide +kernel
theorem dX13_append_121 : decode cX13_append 121 = .ok (.iinc 3 1, 3) := by decide +kernel
theorem dX13_append_124 : decode cX13_append 124 = .ok (.goto (-40), 3) := by decide +kernel
theorem dX13_append_127 : decode cX13_append 127 = .ok (.aload_n 0, 1) := by decide +kernel
theorem dX13_append_128 : decode cX13_append 128 = .ok (.getfield 307, 3) := by decide +kernel
theorem dX13_append_131 : decode cX13_append 131 = .ok (.ireturn, 1) := by decide +kernel
theorem dX13_word_0 : decode cX13_word 0 = .ok (.iload_n 0, 1) := by decide +kernel
theorem dX13_word_1 : decode cX13_word 1 = .ok (.tableswitch 79 0 7 #[47, 51, 55, 59, 63, 67, 71, 75], 47) := by decide +kernel
theorem dX13_word_48 : decode cX13_word 48 = .ok (.ldc_w 310, 3) := by decide +kernel
theorem dX13_word_51 : decode cX13_word 51 = .ok (.areturn, 1) := by decide +kernel
theorem dX13_word_52 : decode cX13_word 52 = .ok (.ldc_w 312, 3) := by decide +kernel
theorem dX13_word_55 : decode cX13_word 55 = .ok (.areturn, 1) := by decide +kernel
theorem dX13_word_56 : decode cX13_word 56 = .ok (.ldc_w 314, 3) := by decide +kernel
theorem dX13_word_59 : decode cX13_word 59 = .ok (.areturn, 1) := by decide +kernel
theorem dX13_word_60 : decode cX13_word 60 = .ok (.ldc_w 316, 3) := by decide +kernel
theorem dX13_word_63 : decode cX13_word 63 = .ok (.areturn, 1) := by decide +kernel
theorem dX13_word_64 : decode cX13_word 64 = .ok (.ldc_w 318, 3) := by decide +kernel
theorem dX13_word_67 : decode cX13_word 67 = .ok (.areturn, 1) := by decide +kernel
theorem dX13_word_68 : decode cX13_word 68 = .ok (.ldc_w 320, 3) := by decide +kernel
theorem dX13_word_71 : decode cX13_word 71 = .ok (.areturn, 1) := by decide +kernel
theorem dX13_word_72 : decode cX13_word 72 = .ok (.ldc_w 322, 3) := by decide +kernel
theorem dX13_word_75 : decode cX13_word 75 = .ok (.areturn, 1) := by decide +kernel
theorem dX13_word_76 : decode cX13_word 76 = .ok (.ldc_w 324, 3) := by decide +kernel
theorem dX13_word_79 : decode cX13_word 79 = .ok (.areturn, 1) := by decide +kernel
theorem dX13_word_80 : decode cX13_word 80 = .ok (.ldc_w 326, 3) := by decide +kernel
theorem dX13_word_83 : decode cX13_word 83 = .ok (.areturn, 1) := by decide +kernel
theorem dX13_fewest_0 : decode cX13_fewest 0 = .ok (.iload_n 0, 1) := by decide +kernel
theorem dX13_fewest_1 : decode cX13_fewest 1 = .ok (.ifCond .eq 8, 3) := by decide +kernel
theorem dX13_fewest_4 : decode cX13_fewest 4 = .ok (.iload_n 0, 1) := by decide +kernel
theorem dX13_fewest_5 : decode cX13_fewest 5 = .ok (.iconst 2, 1) := by decide +kernel
theorem dX13_fewest_6 : decode cX13_fewest 6 = .ok (.if_icmp .ne 7, 3) := by decide +kernel
theorem dX13_fewest_9 : decode cX13_fewest 9 = .ok (.iconst 3, 1) := by decide +kernel
theorem dX13_fewest_10 : decode cX13_fewest 10 = .ok (.goto 18, 3) := by decide +kernel
theorem dX13_fewest_13 : decode cX13_fewest 13 = .ok (.iload_n 0, 1) := by decide +kernel
theorem dX13_fewest_14 : decode cX13_fewest 14 = .ok (.iconst 1, 1) := by decide +kernel
theorem dX13_fewest_15 : decode cX13_fewest 15 = .ok (.if_icmp .eq 8, 3) := by decide +kernel
theorem dX13_fewest_18 : decode cX13_fewest 18 = .ok (.iload_n 0, 1) := by decide +kernel
theorem dX13_fewest_19 : decode cX13_fewest 19 = .ok (.iconst 3, 1) := by decide +kernel
theorem dX13_fewest_20 : decode cX13_fewest 20 = .ok (.if_icmp .ne 7, 3) := by decide +kernel
theorem dX13_fewest_23 : decode cX13_fewest 23 = .ok (.iconst 4, 1) := by decide +kernel
theorem dX13_fewest_24 : decode cX13_fewest 24 = .ok (.goto 4, 3) := by decide +kernel
theorem dX13_fewest_27 : decode cX13_fewest 27 = .ok (.iconst 1, 1) := by decide +kernel
theorem dX13_fewest_28 : decode cX13_fewest 28 = .ok (.ireturn, 1) := by decide +kernel
theorem dX13_most_0 : decode cX13_most 0 = .ok (.iload_n 0, 1) := by decide +kernel
theorem dX13_most_1 : decode cX13_most 1 = .ok (.iconst 3, 1) := by decide +kernel
theorem dX13_most_2 : decode cX13_most 2 = .ok (.if_icmp .ne 8, 3) := by decide +kernel
theorem dX13_most_5 : decode cX13_most 5 = .ok (.bipush 6, 2) := by decide +kernel
theorem dX13_most_7 : decode cX13_most 7 = .ok (.goto 7, 3) := by decide +kernel
theorem dX13_most_10 : decode cX13_most 10 = .ok (.iload_n 0, 1) := by decide +kernel
theorem dX13_most_11 : decode cX13_most 11 = .ok (.invokestatic 328, 3) := by decide +kernel
theorem dX13_most_14 : decode cX13_most 14 = .ok (.ireturn, 1) := by decide +kernel
theorem dX13_now_0 : decode cX13_now 0 = .ok (.aload_n 0, 1) := by decide +kernel
theorem dX13_now_1 : decode cX13_now 1 = .ok (.getfield 331, 3) := by decide +kernel
theorem dX13_now_4 : decode cX13_now 4 = .ok (.aload_n 0, 1) := by decide +kernel
theorem dX13_now_5 : decode cX13_now 5 = .ok (.getfield 307, 3) := by decide +kernel
theorem dX13_now_8 : decode cX13_now 8 = .ok (.if_icmp .ge 15, 3) := by decide +kernel
theorem dX13_now_11 : decode cX13_now 11 = .ok (.aload_n 0, 1) := by decide +kernel
theorem dX13_now_12 : decode cX13_now 12 = .ok (.getfield 37, 3) := by decide +kernel
theorem dX13_now_15 : decode cX13_now 15 = .ok (.aload_n 0, 1) := by decide +kernel
theorem dX13_now_16 : decode cX13_now 16 = .ok (.getfield 331, 3) := by decide +kernel
theorem dX13_now_19 : decode cX13_now 19 = .ok (.iaload, 1) := by decide +kernel
theorem dX13_now_20 : decode cX13_now 20 = .ok (.goto 4, 3) := by decide +kernel
theorem dX13_now_23 : decode cX13_now 23 = .ok (.iconst (-1), 1) := by decide +kernel
theorem dX13_now_24 : decode cX13_now 24 = .ok (.ireturn, 1) := by decide +kernel
theorem dX13_skips_0 : decode cX13_skips 0 = .ok (.aload_n 0, 1) := by decide +kernel
theorem dX13_skips_1 : decode cX13_skips 1 = .ok (.invokevirtual 334, 3) := by decide +kernel
theorem dX13_skips_4 : decode cX13_skips 4 = .ok (.iload_n 1, 1) := by decide +kernel
theorem dX13_skips_5 : decode cX13_skips 5 = .ok (.if_icmp .ne 7, 3) := by decide +kernel
theorem dX13_skips_8 : decode cX13_skips 8 = .ok (.iconst 1, 1) := by decide +kernel
theorem dX13_skips_9 : decode cX13_skips 9 = .ok (.goto 4, 3) := by decide +kernel
theorem dX13_skips_12 : decode cX13_skips 12 = .ok (.iconst 0, 1) := by decide +kernel
theorem dX13_skips_13 : decode cX13_skips 13 = .ok (.istore_n 2, 1) := by decide +kernel
theorem dX13_skips_14 : decode cX13_skips 14 = .ok (.aload_n 0, 1) := by decide +kernel
theorem dX13_skips_15 : decode cX13_skips 15 = .ok (.dup, 1) := by decide +kernel
theorem dX13_skips_16 : decode cX13_skips 16 = .ok (.getfield 331, 3) := by decide +kernel
theorem dX13_skips_19 : decode cX13_skips 19 = .ok (.iload_n 2, 1) := by decide +kernel
theorem dX13_skips_20 : decode cX13_skips 20 = .ok (.ifCond .eq 7, 3) := by decide +kernel
theorem dX13_skips_23 : decode cX13_skips 23 = .ok (.iconst 1, 1) := by decide +kernel
theorem dX13_skips_24 : decode cX13_skips 24 = .ok (.goto 4, 3) := by decide +kernel
theorem dX13_skips_27 : decode cX13_skips 27 = .ok (.iconst 0, 1) := by decide +kernel
theorem dX13_skips_28 : decode cX13_skips 28 = .ok (.iadd, 1) := by decide +kernel
theorem dX13_skips_29 : decode cX13_skips 29 = .ok (.putfield 331, 3) := by decide +kernel
theorem dX13_skips_32 : decode cX13_skips 32 = .ok (.iload_n 2, 1) := by decide +kernel
theorem dX13_skips_33 : decode cX13_skips 33 = .ok (.ireturn, 1) := by decide +kernel
theorem dX13_isWord_0 : decode cX13_isWord 0 = .ok (.iload_n 2, 1) := by decide +kernel
theorem dX13_isWord_1 : decode cX13_isWord 1 = .ok (.iload_n 1, 1) := by decide +kernel
theorem dX13_isWord_2 : decode cX13_isWord 2 = .ok (.isub, 1) := by decide +kernel
theorem dX13_isWord_3 : decode cX13_isWord 3 = .ok (.iload_n 3, 1) := by decide +kernel
theorem dX13_isWord_4 : decode cX13_isWord 4 = .ok (.invokestatic 338, 3) := by decide +kernel
theorem dX13_isWord_7 : decode cX13_isWord 7 = .ok (.invokevirtual 342, 3) := by decide +kernel
theorem dX13_isWord_10 : decode cX13_isWord 10 = .ok (.if_icmp .ne 7, 3) := by decide +kernel
theorem dX13_isWord_13 : decode cX13_isWord 13 = .ok (.iconst 1, 1) := by decide +kernel
theorem dX13_isWord_14 : decode cX13_isWord 14 = .ok (.goto 4, 3) := by decide +kernel
theorem dX13_isWord_17 : decode cX13_isWord 17 = .ok (.iconst 0, 1) := by decide +kernel
theorem dX13_isWord_18 : decode cX13_isWord 18 = .ok (.istore 4, 2) := by decide +kernel
theorem dX13_isWord_20 : decode cX13_isWord 20 = .ok (.iload_n 1, 1) := by decide +kernel
theorem dX13_isWord_21 : decode cX13_isWord 21 = .ok (.istore 5, 2) := by decide +kernel
theorem dX13_isWord_23 : decode cX13_isWord 23 = .ok (.iload 5, 2) := by decide +kernel
theorem dX13_isWord_25 : decode cX13_isWord 25 = .ok (.iload_n 2, 1) := by decide +kernel
theorem dX13_isWord_26 : decode cX13_isWord 26 = .ok (.if_icmp .ge 42, 3) := by decide +kernel
theorem dX13_isWord_29 : decode cX13_isWord 29 = .ok (.iload 4, 2) := by decide +kernel
theorem dX13_isWord_31 : decode cX13_isWord 31 = .ok (.ifCond .eq 37, 3) := by decide +kernel
theorem dX13_isWord_34 : decode cX13_isWord 34 = .ok (.aload_n 0, 1) := by decide +kernel
theorem dX13_isWord_35 : decode cX13_isWord 35 = .ok (.getfield 37, 3) := by decide +kernel
theorem dX13_isWord_38 : decode cX13_isWord 38 = .ok (.iload 5, 2) := by decide +kernel
theorem dX13_isWord_40 : decode cX13_isWord 40 = .ok (.iaload, 1) := by decide +kernel
theorem dX13_isWord_41 : decode cX13_isWord 41 = .ok (.iload_n 3, 1) := by decide +kernel
theorem dX13_isWord_42 : decode cX13_isWord 42 = .ok (.invokestatic 338, 3) := by decide +kernel
theorem dX13_isWord_45 : decode cX13_isWord 45 = .ok (.iload 5, 2) := by decide +kernel
theorem dX13_isWord_47 : decode cX13_isWord 47 = .ok (.iload_n 1, 1) := by decide +kernel
theorem dX13_isWord_48 : decode cX13_isWord 48 = .ok (.isub, 1) := by decide +kernel
theorem dX13_isWord_49 : decode cX13_isWord 49 = .ok (.invokevirtual 346, 3) := by decide +kernel
theorem dX13_isWord_52 : decode cX13_isWord 52 = .ok (.if_icmp .ne 7, 3) := by decide +kernel
theorem dX13_isWord_55 : decode cX13_isWord 55 = .ok (.iconst 1, 1) := by decide +kernel
theorem dX13_isWord_56 : decode cX13_isWord 56 = .ok (.goto 4, 3) := by decide +kernel
theorem dX13_isWord_59 : decode cX13_isWord 59 = .ok (.iconst 0, 1) := by decide +kernel
theorem dX13_isWord_60 : decode cX13_isWord 60 = .ok (.istore 4, 2) := by decide +kernel
theorem dX13_isWord_62 : decode cX13_isWord 62 = .ok (.iinc 5 1, 3) := by decide +kernel
theorem dX13_isWord_65 : decode cX13_isWord 65 = .ok (.goto (-42), 3) := by decide +kernel
theorem dX13_isWord_68 : decode cX13_isWord 68 = .ok (.iload 4, 2) := by decide +kernel
theorem dX13_isWord_70 : decode cX13_isWord 70 = .ok (.ireturn, 1) := by decide +kernel
theorem dX13_wordHere_0 : decode cX13_wordHere 0 = .ok (.aload_n 0, 1) := by decide +kernel
theorem dX13_wordHere_1 : decode cX13_wordHere 1 = .ok (.getfield 331, 3) := by decide +kernel
theorem dX13_wordHere_4 : decode cX13_wordHere 4 = .ok (.istore_n 1, 1) := by decide +kernel
theorem dX13_wordHere_5 : decode cX13_wordHere 5 = .ok (.aload_n 0, 1) := by decide +kernel
theorem dX13_wordHere_6 : decode cX13_wordHere 6 = .ok (.invokevirtual 334, 3) := by decide +kernel
theorem dX13_wordHere_9 : decode cX13_wordHere 9 = .ok (.bipush 97, 2) := by decide +kernel
theorem dX13_wordHere_11 : decode cX13_wordHere 11 = .ok (.bipush 122, 2) := by decide +kernel
theorem dX13_wordHere_13 : decode cX13_wordHere 13 = .ok (.invokestatic 68, 3) := by decide +kernel
theorem dX13_wordHere_16 : decode cX13_wordHere 16 = .ok (.ifCond .eq 16, 3) := by decide +kernel
theorem dX13_wordHere_19 : decode cX13_wordHere 19 = .ok (.aload_n 0, 1) := by decide +kernel
theorem dX13_wordHere_20 : decode cX13_wordHere 20 = .ok (.dup, 1) := by decide +kernel
theorem dX13_wordHere_21 : decode cX13_wordHere 21 = .ok (.getfield 331, 3) := by decide +kernel
theorem dX13_wordHere_24 : decode cX13_wordHere 24 = .ok (.iconst 1, 1) := by decide +kernel
theorem dX13_wordHere_25 : decode cX13_wordHere 25 = .ok (.iadd, 1) := by decide +kernel
theorem dX13_wordHere_26 : decode cX13_wordHere 26 = .ok (.putfield 331, 3) := by decide +kernel
theorem dX13_wordHere_29 : decode cX13_wordHere 29 = .ok (.goto (-24), 3) := by decide +kernel
theorem dX13_wordHere_32 : decode cX13_wordHere 32 = .ok (.iconst 0, 1) := by decide +kernel
theorem dX13_wordHere_33 : decode cX13_wordHere 33 = .ok (.istore_n 2, 1) := by decide +kernel
theorem dX13_wordHere_34 : decode cX13_wordHere 34 = .ok (.iload_n 2, 1) := by decide +kernel
theorem dX13_wordHere_35 : decode cX13_wordHere 35 = .ok (.bipush 9, 2) := by decide +kernel
theorem dX13_wordHere_37 : decode cX13_wordHere 37 = .ok (.if_icmp .ge 24, 3) := by decide +kernel
theorem dX13_wordHere_40 : decode cX13_wordHere 40 = .ok (.aload_n 0, 1) := by decide +kernel
theorem dX13_wordHere_41 : decode cX13_wordHere 41 = .ok (.iload_n 1, 1) := by decide +kernel
theorem dX13_wordHere_42 : decode cX13_wordHere 42 = .ok (.aload_n 0, 1) := by decide +kernel
theorem dX13_wordHere_43 : decode cX13_wordHere 43 = .ok (.getfield 331, 3) := by decide +kernel
theorem dX13_wordHere_46 : decode cX13_wordHere 46 = .ok (.iload_n 2, 1) := by decide +kernel
theorem dX13_wordHere_47 : decode cX13_wordHere 47 = .ok (.invokevirtual 350, 3) := by decide +kernel
theorem dX13_wordHere_50 : decode cX13_wordHere 50 = .ok (.ifCond .eq 5, 3) := by decide +kernel
theorem dX13_wordHere_53 : decode cX13_wordHere 53 = .ok (.iload_n 2, 1) := by decide +kernel
theorem dX13_wordHere_54 : decode cX13_wordHere 54 = .ok (.ireturn, 1) := by decide +kernel
theorem dX13_wordHere_55 : decode cX13_wordHere 55 = .ok (.iinc 2 1, 3) := by decide +kernel
theorem dX13_wordHere_58 : decode cX13_wordHere 58 = .ok (.goto (-24), 3) := by decide +kernel
theorem dX13_wordHere_61 : decode cX13_wordHere 61 = .ok (.aload_n 0, 1) := by decide +kernel
theorem dX13_wordHere_62 : decode cX13_wordHere 62 = .ok (.iload_n 1, 1) := by decide +kernel
theorem dX13_wordHere_63 : decode cX13_wordHere 63 = .ok (.putfield 331, 3) := by decide +kernel
theorem dX13_wordHere_66 : decode cX13_wordHere 66 = .ok (.iconst (-1), 1) := by decide +kernel
theorem dX13_wordHere_67 : decode cX13_wordHere 67 = .ok (.ireturn, 1) := by decide +kernel
theorem dX13_numberHere_0 : decode cX13_numberHere 0 = .ok (.aload_n 0, 1) := by decide +kernel
theorem dX13_numberHere_1 : decode cX13_numberHere 1 = .ok (.invokevirtual 334, 3) := by decide +kernel
theorem dX13_numberHere_4 : decode cX13_numberHere 4 = .ok (.bipush 48, 2) := by decide +kernel
theorem dX13_numberHere_6 : decode cX13_numberHere 6 = .ok (.bipush 57, 2) := by decide +kernel
theorem dX13_numberHere_8 : decode cX13_numberHere 8 = .ok (.invokestatic 68, 3) := by decide +kernel
theorem dX13_numberHere_11 : decode cX13_numberHere 11 = .ok (.ifCond .ne 5, 3) := by decide +kernel
theorem dX13_numberHere_14 : decode cX13_numberHere 14 = .ok (.iconst 0, 1) := by decide +kernel
theorem dX13_numberHere_15 : decode cX13_numberHere 15 = .ok (.ireturn, 1) := by decide +kernel
theorem dX13_numberHere_16 : decode cX13_numberHere 16 = .ok (.aload_n 0, 1) := by decide +kernel
theorem dX13_numberHere_17 : decode cX13_numberHere 17 = .ok (.getfield 44, 3) := by decide +kernel
theorem dX13_numberHere_20 : decode cX13_numberHere 20 = .ok (.iload_n 1, 1) := by decide +kernel
theorem dX13_numberHere_21 : decode cX13_numberHere 21 = .ok (.aload_n 0, 1) := by decide +kernel
theorem dX13_numberHere_22 : decode cX13_numberHere 22 = .ok (.invokevirtual 334, 3) := by decide +kernel
theorem dX13_numberHere_25 : decode cX13_numberHere 25 = .ok (.bipush 48, 2) := by decide +kernel
theorem dX13_numberHere_27 : decode cX13_numberHere 27 = .ok (.isub, 1) := by decide +kernel
theorem dX13_numberHere_28 : decode cX13_numberHere 28 = .ok (.iastore, 1) := by decide +kernel
theorem dX13_numberHere_29 : decode cX13_numberHere 29 = .ok (.aload_n 0, 1) := by decide +kernel
theorem dX13_numberHere_30 : decode cX13_numberHere 30 = .ok (.dup, 1) := by decide +kernel
theorem dX13_numberHere_31 : decode cX13_numberHere 31 = .ok (.getfield 331, 3) := by decide +kernel
theorem dX13_numberHere_34 : decode cX13_numberHere 34 = .ok (.iconst 1, 1) := by decide +kernel
theorem dX13_numberHere_35 : decode cX13_numberHere 35 = .ok (.iadd, 1) := by decide +kernel
theorem dX13_numberHere_36 : decode cX13_numberHere 36 = .ok (.putfield 331, 3) := by decide +kernel
theorem dX13_numberHere_39 : decode cX13_numberHere 39 = .ok (.iconst 1, 1) := by decide +kernel
theorem dX13_numberHere_40 : decode cX13_numberHere 40 = .ok (.istore_n 2, 1) := by decide +kernel
theorem dX13_numberHere_41 : decode cX13_numberHere 41 = .ok (.iload_n 2, 1) := by decide +kernel
theorem dX13_numberHere_42 : decode cX13_numberHere 42 = .ok (.iconst 5, 1) := by decide +kernel
theorem dX13_numberHere_43 : decode cX13_numberHere 43 = .ok (.if_icmp .ge 65, 3) := by decide +kernel
theorem dX13_numberHere_46 : decode cX13_numberHere 46 = .ok (.aload_n 0, 1) := by decide +kernel
theorem dX13_numberHere_47 : decode cX13_numberHere 47 = .ok (.getfield 44, 3) := by decide +kernel
theorem dX13_numberHere_50 : decode cX13_numberHere 50 = .ok (.iload_n 1, 1) := by decide +kernel
theorem dX13_numberHere_51 : decode cX13_numberHere 51 = .ok (.iaload, 1) := by decide +kernel
theorem dX13_numberHere_52 : decode cX13_numberHere 52 = .ok (.ifCond .le 56, 3) := by decide +kernel
theorem dX13_numberHere_55 : decode cX13_numberHere 55 = .ok (.aload_n 0, 1) := by decide +kernel
theorem dX13_numberHere_56 : decode cX13_numberHere 56 = .ok (.invokevirtual 334, 3) := by decide +kernel
theorem dX13_numberHere_59 : decode cX13_numberHere 59 = .ok (.bipush 48, 2) := by decide +kernel
theorem dX13_numberHere_61 : decode cX13_numberHere 61 = .ok (.bipush 57, 2) := by decide +kernel
theorem dX13_numberHere_63 : decode cX13_numberHere 63 = .ok (.invokestatic 68, 3) := by decide +kernel
theorem dX13_numberHere_66 : decode cX13_numberHere 66 = .ok (.ifCond .eq 42, 3) := by decide +kernel
theorem dX13_numberHere_69 : decode cX13_numberHere 69 = .ok (.aload_n 0, 1) := by decide +kernel
theorem dX13_numberHere_70 : decode cX13_numberHere 70 = .ok (.getfield 44, 3) := by decide +kernel
theorem dX13_numberHere_73 : decode cX13_numberHere 73 = .ok (.iload_n 1, 1) := by decide +kernel
theorem dX13_numberHere_74 : decode cX13_numberHere 74 = .ok (.bipush 10, 2) := by decide +kernel
theorem dX13_numberHere_76 : decode cX13_numberHere 76 = .ok (.aload_n 0, 1) := by decide +kernel
theorem dX13_numberHere_77 : decode cX13_numberHere 77 = .ok (.getfield 44, 3) := by decide +kernel
theorem dX13_numberHere_80 : decode cX13_numberHere 80 = .ok (.iload_n 1, 1) := by decide +kernel
theorem dX13_numberHere_81 : decode cX13_numberHere 81 = .ok (.iaload, 1) := by decide +kernel
theorem dX13_numberHere_82 : decode cX13_numberHere 82 = .ok (.imul, 1) := by decide +kernel
theorem dX13_numberHere_83 : decode cX13_numberHere 83 = .ok (.aload_n 0, 1) := by decide +kernel
theorem dX13_numberHere_84 : decode cX13_numberHere 84 = .ok (.invokevirtual 334, 3) := by decide +kernel
theorem dX13_numberHere_87 : decode cX13_numberHere 87 = .ok (.iadd, 1) := by decide +kernel
theorem dX13_numberHere_88 : decode cX13_numberHere 88 = .ok (.bipush 48, 2) := by decide +kernel
theorem dX13_numberHere_90 : decode cX13_numberHere 90 = .ok (.isub, 1) := by decide +kernel
theorem dX13_numberHere_91 : decode cX13_numberHere 91 = .ok (.iastore, 1) := by decide +kernel
theorem dX13_numberHere_92 : decode cX13_numberHere 92 = .ok (.aload_n 0, 1) := by decide +kernel
theorem dX13_numberHere_93 : decode cX13_numberHere 93 = .ok (.dup, 1) := by decide +kernel
theorem dX13_numberHere_94 : decode cX13_numberHere 94 = .ok (.getfield 331, 3) := by decide +kernel
theorem dX13_numberHere_97 : decode cX13_numberHere 97 = .ok (.iconst 1, 1) := by decide +kernel
theorem dX13_numberHere_98 : decode cX13_numberHere 98 = .ok (.iadd, 1) := by decide +kernel
theorem dX13_numberHere_99 : decode cX13_numberHere 99 = .ok (.putfield 331, 3) := by decide +kernel
theorem dX13_numberHere_102 : decode cX13_numberHere 102 = .ok (.iinc 2 1, 3) := by decide +kernel
theorem dX13_numberHere_105 : decode cX13_numberHere 105 = .ok (.goto (-64), 3) := by decide +kernel
theorem dX13_numberHere_108 : decode cX13_numberHere 108 = .ok (.iconst 1, 1) := by decide +kernel
theorem dX13_numberHere_109 : decode cX13_numberHere 109 = .ok (.ireturn, 1) := by decide +kernel
theorem dX13_commandHere_0 : decode cX13_commandHere 0 = .ok (.bipush 9, 2) := by decide +kernel
theorem dX13_commandHere_2 : decode cX13_commandHere 2 = .ok (.aload_n 0, 1) := by decide +kernel
theorem dX13_commandHere_3 : decode cX13_commandHere 3 = .ok (.getfield 353, 3) := by decide +kernel
theorem dX13_commandHere_6 : decode cX13_commandHere 6 = .ok (.imul, 1) := by decide +kernel
theorem dX13_commandHere_7 : decode cX13_commandHere 7 = .ok (.istore_n 1, 1) := by decide +kernel
theorem dX13_commandHere_8 : decode cX13_commandHere 8 = .ok (.aload_n 0, 1) := by decide +kernel
theorem dX13_commandHere_9 : decode cX13_commandHere 9 = .ok (.getfield 44, 3) := by decide +kernel
theorem dX13_commandHere_12 : decode cX13_commandHere 12 = .ok (.iload_n 1, 1) := by decide +kernel
theorem dX13_commandHere_13 : decode cX13_commandHere 13 = .ok (.iconst 1, 1) := by decide +kernel
theorem dX13_commandHere_14 : decode cX13_commandHere 14 = .ok (.iadd, 1) := by decide +kernel
theorem dX13_commandHere_15 : decode cX13_commandHere 15 = .ok (.aload_n 0, 1) := by decide +kernel
theorem dX13_commandHere_16 : decode cX13_commandHere 16 = .ok (.getfield 331, 3) := by decide +kernel
theorem dX13_commandHere_19 : decode cX13_commandHere 19 = .ok (.iastore, 1) := by decide +kernel
theorem dX13_commandHere_20 : decode cX13_commandHere 20 = .ok (.aload_n 0, 1) := by decide +kernel
theorem dX13_commandHere_21 : decode cX13_commandHere 21 = .ok (.getfield 44, 3) := by decide +kernel
theorem dX13_commandHere_24 : decode cX13_commandHere 24 = .ok (.iload_n 1, 1) := by decide +kernel
theorem dX13_commandHere_25 : decode cX13_commandHere 25 = .ok (.aload_n 0, 1) := by decide +kernel
theorem dX13_commandHere_26 : decode cX13_commandHere 26 = .ok (.invokevirtual 356, 3) := by decide +kernel
theorem dX13_commandHere_29 : decode cX13_commandHere 29 = .ok (.iastore, 1) := by decide +kernel
theorem dX13_commandHere_30 : decode cX13_commandHere 30 = .ok (.aload_n 0, 1) := by decide +kernel
theorem dX13_commandHere_31 : decode cX13_commandHere 31 = .ok (.getfield 44, 3) := by decide +kernel
theorem dX13_commandHere_34 : decode cX13_commandHere 34 = .ok (.iload_n 1, 1) := by decide +kernel
theorem dX13_commandHere_35 : decode cX13_commandHere 35 = .ok (.iconst 2, 1) := by decide +kernel
theorem dX13_commandHere_36 : decode cX13_commandHere 36 = .ok (.iadd, 1) := by decide +kernel
theorem dX13_commandHere_37 : decode cX13_commandHere 37 = .ok (.iconst 0, 1) := by decide +kernel
theorem dX13_commandHere_38 : decode cX13_commandHere 38 = .ok (.iastore, 1) := by decide +kernel
theorem dX13_commandHere_39 : decode cX13_commandHere 39 = .ok (.iconst 3, 1) := by decide +kernel
theorem dX13_commandHere_40 : decode cX13_commandHere 40 = .ok (.istore_n 2, 1) := by decide +kernel
theorem dX13_commandHere_41 : decode cX13_commandHere 41 = .ok (.iload_n 2, 1) := by decide +kernel
theorem dX13_commandHere_42 : decode cX13_commandHere 42 = .ok (.bipush 9, 2) := by decide +kernel
theorem dX13_commandHere_44 : decode cX13_commandHere 44 = .ok (.if_icmp .ge 18, 3) := by decide +kernel
theorem dX13_commandHere_47 : decode cX13_commandHere 47 = .ok (.aload_n 0, 1) := by decide +kernel
theorem dX13_commandHere_48 : decode cX13_commandHere 48 = .ok (.getfield 44, 3) := by decide +kernel
theorem dX13_commandHere_51 : decode cX13_commandHere 51 = .ok (.iload_n 1, 1) := by decide +kernel
theorem dX13_commandHere_52 : decode cX13_commandHere 52 = .ok (.iload_n 2, 1) := by decide +kernel
theorem dX13_commandHere_53 : decode cX13_commandHere 53 = .ok (.iadd, 1) := by decide +kernel
theorem dX13_commandHere_54 : decode cX13_commandHere 54 = .ok (.iconst (-1), 1) := by decide +kernel
theorem dX13_commandHere_55 : decode cX13_commandHere 55 = .ok (.iastore, 1) := by decide +kernel
theorem dX13_commandHere_56 : decode cX13_commandHere 56 = .ok (.iinc 2 1, 3) := by decide +kernel
theorem dX13_commandHere_59 : decode cX13_commandHere 59 = .ok (.goto (-18), 3) := by decide +kernel
theorem dX13_commandHere_62 : decode cX13_commandHere 62 = .ok (.aload_n 0, 1) := by decide +kernel
theorem dX13_commandHere_63 : decode cX13_commandHere 63 = .ok (.getfield 44, 3) := by decide +kernel
theorem dX13_commandHere_66 : decode cX13_commandHere 66 = .ok (.iload_n 1, 1) := by decide +kernel
theorem dX13_commandHere_67 : decode cX13_commandHere 67 = .ok (.iaload, 1) := by decide +kernel
theorem dX13_commandHere_68 : decode cX13_commandHere 68 = .ok (.ifCond .lt 12, 3) := by decide +kernel
theorem dX13_commandHere_71 : decode cX13_commandHere 71 = .ok (.aload_n 0, 1) := by decide +kernel
theorem dX13_commandHere_72 : decode cX13_commandHere 72 = .ok (.bipush 58, 2) := by decide +kernel
theorem dX13_commandHere_74 : decode cX13_commandHere 74 = .ok (.invokevirtual 359, 3) := by decide +kernel
theorem dX13_commandHere_77 : decode cX13_commandHere 77 = .ok (.ifCond .ne 5, 3) := by decide +kernel
theorem dX13_commandHere_80 : decode cX13_commandHere 80 = .ok (.iconst 0, 1) := by decide +kernel
theorem dX13_commandHere_81 : decode cX13_commandHere 81 = .ok (.ireturn, 1) := by decide +kernel
theorem dX13_commandHere_82 : decode cX13_commandHere 82 = .ok (.aload_n 0, 1) := by decide +kernel
theorem dX13_commandHere_83 : decode cX13_commandHere 83 = .ok (.iload_n 1, 1) := by decide +kernel
theorem dX13_commandHere_84 : decode cX13_commandHere 84 = .ok (.iconst 3, 1) := by decide +kernel
theorem dX13_commandHere_85 : decode cX13_commandHere 85 = .ok (.iadd, 1) := by decide +kernel
theorem dX13_commandHere_86 : decode cX13_commandHere 86 = .ok (.aload_n 0, 1) := by decide +kernel
theorem dX13_commandHere_87 : decode cX13_commandHere 87 = .ok (.getfield 44, 3) := by decide +kernel
theorem dX13_commandHere_90 : decode cX13_commandHere 90 = .ok (.iload_n 1, 1) := by decide +kernel
theorem dX13_commandHere_91 : decode cX13_commandHere 91 = .ok (.iconst 2, 1) := by decide +kernel
theorem dX13_commandHere_92 : decode cX13_commandHere 92 = .ok (.iadd, 1) := by decide +kernel
theorem dX13_commandHere_93 : decode cX13_commandHere 93 = .ok (.iaload, 1) := by decide +kernel
theorem dX13_commandHere_94 : decode cX13_commandHere 94 = .ok (.iadd, 1) := by decide +kernel
theorem dX13_commandHere_95 : decode cX13_commandHere 95 = .ok (.invokevirtual 362, 3) := by decide +kernel
theorem dX13_commandHere_98 : decode cX13_commandHere 98 = .ok (.ifCond .ne 5, 3) := by decide +kernel
theorem dX13_commandHere_101 : decode cX13_commandHere 101 = .ok (.iconst 0, 1) := by decide +kernel
theorem dX13_commandHere_102 : decode cX13_commandHere 102 = .ok (.ireturn, 1) := by decide +kernel
theorem dX13_commandHere_103 : decode cX13_commandHere 103 = .ok (.aload_n 0, 1) := by decide +kernel
theorem dX13_commandHere_104 : decode cX13_commandHere 104 = .ok (.getfield 44, 3) := by decide +kernel
theorem dX13_commandHere_107 : decode cX13_commandHere 107 = .ok (.iload_n 1, 1) := by decide +kernel
theorem dX13_commandHere_108 : decode cX13_commandHere 108 = .ok (.iconst 2, 1) := by decide +kernel
theorem dX13_commandHere_109 : decode cX13_commandHere 109 = .ok (.iadd, 1) := by decide +kernel
theorem dX13_commandHere_110 : decode cX13_commandHere 110 = .ok (.dup2, 1) := by decide +kernel
theorem dX13_commandHere_111 : decode cX13_commandHere 111 = .ok (.iaload, 1) := by decide +kernel
theorem dX13_commandHere_112 : decode cX13_commandHere 112 = .ok (.iconst 1, 1) := by decide +kernel
theorem dX13_commandHere_113 : decode cX13_commandHere 113 = .ok (.iadd, 1) := by decide +kernel
theorem dX13_commandHere_114 : decode cX13_commandHere 114 = .ok (.iastore, 1) := by decide +kernel
theorem dX13_commandHere_115 : decode cX13_commandHere 115 = .ok (.aload_n 0, 1) := by decide +kernel
theorem dX13_commandHere_116 : decode cX13_commandHere 116 = .ok (.getfield 44, 3) := by decide +kernel
theorem dX13_commandHere_119 : decode cX13_commandHere 119 = .ok (.iload_n 1, 1) := by decide +kernel
theorem dX13_commandHere_120 : decode cX13_commandHere 120 = .ok (.iconst 2, 1) := by decide +kernel
theorem dX13_commandHere_121 : decode cX13_commandHere 121 = .ok (.iadd, 1) := by decide +kernel
theorem dX13_commandHere_122 : decode cX13_commandHere 122 = .ok (.iaload, 1) := by decide +kernel
theorem dX13_commandHere_123 : decode cX13_commandHere 123 = .ok (.aload_n 0, 1) := by decide +kernel
theorem dX13_commandHere_124 : decode cX13_commandHere 124 = .ok (.getfield 44, 3) := by decide +kernel
theorem dX13_commandHere_127 : decode cX13_commandHere 127 = .ok (.iload_n 1, 1) := by decide +kernel
theorem dX13_commandHere_128 : decode cX13_commandHere 128 = .ok (.iaload, 1) := by decide +kernel
theorem dX13_commandHere_129 : decode cX13_commandHere 129 = .ok (.invokestatic 365, 3) := by decide +kernel
theorem dX13_commandHere_132 : decode cX13_commandHere 132 = .ok (.if_icmp .ge 12, 3) := by decide +kernel
theorem dX13_commandHere_135 : decode cX13_commandHere 135 = .ok (.aload_n 0, 1) := by decide +kernel
theorem dX13_commandHere_136 : decode cX13_commandHere 136 = .ok (.bipush 44, 2) := by decide +kernel
theorem dX13_commandHere_138 : decode cX13_commandHere 138 = .ok (.invokevirtual 359, 3) := by decide +kernel
theorem dX13_commandHere_141 : decode cX13_commandHere 141 = .ok (.ifCond .ne (-59), 3) := by decide +kernel
theorem dX13_commandHere_144 : decode cX13_commandHere 144 = .ok (.aload_n 0, 1) := by decide +kernel
theorem dX13_commandHere_145 : decode cX13_commandHere 145 = .ok (.dup, 1) := by decide +kernel
theorem dX13_commandHere_146 : decode cX13_commandHere 146 = .ok (.getfield 353, 3) := by decide +kernel
theorem dX13_commandHere_149 : decode cX13_commandHere 149 = .ok (.iconst 1, 1) := by decide +kernel
theorem dX13_commandHere_150 : decode cX13_commandHere 150 = .ok (.iadd, 1) := by decide +kernel
theorem dX13_commandHere_151 : decode cX13_commandHere 151 = .ok (.putfield 353, 3) := by decide +kernel
theorem dX13_commandHere_154 : decode cX13_commandHere 154 = .ok (.aload_n 0, 1) := by decide +kernel
theorem dX13_commandHere_155 : decode cX13_commandHere 155 = .ok (.getfield 44, 3) := by decide +kernel
theorem dX13_commandHere_158 : decode cX13_commandHere 158 = .ok (.iload_n 1, 1) := by decide +kernel
theorem dX13_commandHere_159 : decode cX13_commandHere 159 = .ok (.iconst 2, 1) := by decide +kernel
theorem dX13_commandHere_160 : decode cX13_commandHere 160 = .ok (.iadd, 1) := by decide +kernel
theorem dX13_commandHere_161 : decode cX13_commandHere 161 = .ok (.iaload, 1) := by decide +kernel
theorem dX13_commandHere_162 : decode cX13_commandHere 162 = .ok (.aload_n 0, 1) := by decide +kernel
theorem dX13_commandHere_163 : decode cX13_commandHere 163 = .ok (.getfield 44, 3) := by decide +kernel
theorem dX13_commandHere_166 : decode cX13_commandHere 166 = .ok (.iload_n 1, 1) := by decide +kernel
theorem dX13_commandHere_167 : decode cX13_commandHere 167 = .ok (.iaload, 1) := by decide +kernel
theorem dX13_commandHere_168 : decode cX13_commandHere 168 = .ok (.invokestatic 328, 3) := by decide +kernel
theorem dX13_commandHere_171 : decode cX13_commandHere 171 = .ok (.if_icmp .lt 16, 3) := by decide +kernel
theorem dX13_commandHere_174 : decode cX13_commandHere 174 = .ok (.aload_n 0, 1) := by decide +kernel
theorem dX13_commandHere_175 : decode cX13_commandHere 175 = .ok (.bipush 59, 2) := by decide +kernel
theorem dX13_commandHere_177 : decode cX13_commandHere 177 = .ok (.invokevirtual 359, 3) := by decide +kernel
theorem dX13_commandHere_180 : decode cX13_commandHere 180 = .ok (.ifCond .eq 7, 3) := by decide +kernel
theorem dX13_commandHere_183 : decode cX13_commandHere 183 = .ok (.iconst 1, 1) := by decide +kernel
theorem dX13_commandHere_184 : decode cX13_commandHere 184 = .ok (.goto 4, 3) := by decide +kernel
theorem dX13_commandHere_187 : decode cX13_commandHere 187 = .ok (.iconst 0, 1) := by decide +kernel
theorem dX13_commandHere_188 : decode cX13_commandHere 188 = .ok (.ireturn, 1) := by decide +kernel
theorem dX13_isText_0 : decode cX13_isText 0 = .ok (.aload_n 0, 1) := by decide +kernel
theorem dX13_isText_1 : decode cX13_isText 1 = .ok (.iconst 0, 1) := by decide +kernel
theorem dX13_isText_2 : decode cX13_isText 2 = .ok (.putfield 331, 3) := by decide +kernel
theorem dX13_isText_5 : decode cX13_isText 5 = .ok (.aload_n 0, 1) := by decide +kernel
theorem dX13_isText_6 : decode cX13_isText 6 = .ok (.iconst 0, 1) := by decide +kernel
theorem dX13_isText_7 : decode cX13_isText 7 = .ok (.putfield 353, 3) := by decide +kernel
theorem dX13_isText_10 : decode cX13_isText 10 = .ok (.aload_n 0, 1) := by decide +kernel
theorem dX13_isText_11 : decode cX13_isText 11 = .ok (.invokevirtual 368, 3) := by decide +kernel
theorem dX13_isText_14 : decode cX13_isText 14 = .ok (.ifCond .ne 5, 3) := by decide +kernel
theorem dX13_isText_17 : decode cX13_isText 17 = .ok (.iconst 0, 1) := by decide +kernel
theorem dX13_isText_18 : decode cX13_isText 18 = .ok (.ireturn, 1) := by decide +kernel
theorem dX13_isText_19 : decode cX13_isText 19 = .ok (.aload_n 0, 1) := by decide +kernel
theorem dX13_isText_20 : decode cX13_isText 20 = .ok (.getfield 331, 3) := by decide +kernel
theorem dX13_isText_23 : decode cX13_isText 23 = .ok (.aload_n 0, 1) := by decide +kernel
theorem dX13_isText_24 : decode cX13_isText 24 = .ok (.getfield 307, 3) := by decide +kernel
theorem dX13_isText_27 : decode cX13_isText 27 = .ok (.if_icmp .lt (-17), 3) := by decide +kernel
theorem dX13_isText_30 : decode cX13_isText 30 = .ok (.iconst 1, 1) := by decide +kernel
theorem dX13_isText_31 : decode cX13_isText 31 = .ok (.ireturn, 1) := by decide +kernel
theorem dX13_does_0 : decode cX13_does 0 = .ok (.bipush 9, 2) := by decide +kernel
theorem dX13_does_2 : decode cX13_does 2 = .ok (.iload_n 1, 1) := by decide +kernel
theorem dX13_does_3 : decode cX13_does 3 = .ok (.imul, 1) := by decide +kernel
theorem dX13_does_4 : decode cX13_does 4 = .ok (.iconst 3, 1) := by decide +kernel
theorem dX13_does_5 : decode cX13_does 5 = .ok (.iadd, 1) := by decide +kernel
theorem dX13_does_6 : decode cX13_does 6 = .ok (.istore_n 2, 1) := by decide +kernel
theorem dX13_does_7 : decode cX13_does 7 = .ok (.aload_n 0, 1) := by decide +kernel
theorem dX13_does_8 : decode cX13_does 8 = .ok (.getfield 44, 3) := by decide +kernel
theorem dX13_does_11 : decode cX13_does 11 = .ok (.iload_n 2, 1) := by decide +kernel
theorem dX13_does_12 : decode cX13_does 12 = .ok (.iaload, 1) := by decide +kernel
theorem dX13_does_13 : decode cX13_does 13 = .ok (.istore_n 3, 1) := by decide +kernel
theorem dX13_does_14 : decode cX13_does 14 = .ok (.aload_n 0, 1) := by decide +kernel
theorem dX13_does_15 : decode cX13_does 15 = .ok (.getfield 44, 3) := by decide +kernel
theorem dX13_does_18 : decode cX13_does 18 = .ok (.iload_n 2, 1) := by decide +kernel
theorem dX13_does_19 : decode cX13_does 19 = .ok (.iconst 1, 1) := by decide +kernel
theorem dX13_does_20 : decode cX13_does 20 = .ok (.iadd, 1) := by decide +kernel
theorem dX13_does_21 : decode cX13_does 21 = .ok (.iaload, 1) := by decide +kernel
theorem dX13_does_22 : decode cX13_does 22 = .ok (.istore 4, 2) := by decide +kernel
theorem dX13_does_24 : decode cX13_does 24 = .ok (.aload_n 0, 1) := by decide +kernel
theorem dX13_does_25 : decode cX13_does 25 = .ok (.getfield 44, 3) := by decide +kernel
theorem dX13_does_28 : decode cX13_does 28 = .ok (.iload_n 2, 1) := by decide +kernel
theorem dX13_does_29 : decode cX13_does 29 = .ok (.iconst 2, 1) := by decide +kernel
theorem dX13_does_30 : decode cX13_does 30 = .ok (.iadd, 1) := by decide +kernel
theorem dX13_does_31 : decode cX13_does 31 = .ok (.iaload, 1) := by decide +kernel
theorem dX13_does_32 : decode cX13_does 32 = .ok (.istore 5, 2) := by decide +kernel
theorem dX13_does_34 : decode cX13_does 34 = .ok (.aload_n 0, 1) := by decide +kernel
theorem dX13_does_35 : decode cX13_does 35 = .ok (.getfield 44, 3) := by decide +kernel
theorem dX13_does_38 : decode cX13_does 38 = .ok (.bipush 9, 2) := by decide +kernel
theorem dX13_does_40 : decode cX13_does 40 = .ok (.iload_n 1, 1) := by decide +kernel
theorem dX13_does_41 : decode cX13_does 41 = .ok (.imul, 1) := by decide +kernel
theorem dX13_does_42 : decode cX13_does 42 = .ok (.iaload, 1) := by decide +kernel
theorem dX13_does_43 : decode cX13_does 43 = .ok (.tableswitch 315 0 7 #[45, 74, 119, 149, 227, 249, 271, 293], 45) := by decide +kernel
theorem dX13_does_88 : decode cX13_does 88 = .ok (.iload_n 3, 1) := by decide +kernel
theorem dX13_does_89 : decode cX13_does 89 = .ok (.iload 4, 2) := by decide +kernel
theorem dX13_does_91 : decode cX13_does 91 = .ok (.iload 5, 2) := by decide +kernel
theorem dX13_does_93 : decode cX13_does 93 = .ok (.invokestatic 107, 3) := by decide +kernel
theorem dX13_does_96 : decode cX13_does 96 = .ok (.ifCond .ne 19, 3) := by decide +kernel
theorem dX13_does_99 : decode cX13_does 99 = .ok (.aload_n 0, 1) := by decide +kernel
theorem dX13_does_100 : decode cX13_does 100 = .ok (.iload_n 3, 1) := by decide +kernel
theorem dX13_does_101 : decode cX13_does 101 = .ok (.iload 4, 2) := by decide +kernel
theorem dX13_does_103 : decode cX13_does 103 = .ok (.iload 5, 2) := by decide +kernel
theorem dX13_does_105 : decode cX13_does 105 = .ok (.invokevirtual 115, 3) := by decide +kernel
theorem dX13_does_108 : decode cX13_does 108 = .ok (.ifCond .lt 7, 3) := by decide +kernel
theorem dX13_does_111 : decode cX13_does 111 = .ok (.iconst 1, 1) := by decide +kernel
theorem dX13_does_112 : decode cX13_does 112 = .ok (.goto 4, 3) := by decide +kernel
theorem dX13_does_115 : decode cX13_does 115 = .ok (.iconst 0, 1) := by decide +kernel
theorem dX13_does_116 : decode cX13_does 116 = .ok (.ireturn, 1) := by decide +kernel
theorem dX13_does_117 : decode cX13_does 117 = .ok (.iload_n 3, 1) := by decide +kernel
theorem dX13_does_118 : decode cX13_does 118 = .ok (.iload 4, 2) := by decide +kernel
theorem dX13_does_120 : decode cX13_does 120 = .ok (.iload 5, 2) := by decide +kernel
theorem dX13_does_122 : decode cX13_does 122 = .ok (.aload_n 0, 1) := by decide +kernel
theorem dX13_does_123 : decode cX13_does 123 = .ok (.getfield 44, 3) := by decide +kernel
theorem dX13_does_126 : decode cX13_does 126 = .ok (.iload_n 2, 1) := by decide +kernel
theorem dX13_does_127 : decode cX13_does 127 = .ok (.iconst 3, 1) := by decide +kernel
theorem dX13_does_128 : decode cX13_does 128 = .ok (.iadd, 1) := by decide +kernel
theorem dX13_does_129 : decode cX13_does 129 = .ok (.iaload, 1) := by decide +kernel
theorem dX13_does_130 : decode cX13_does 130 = .ok (.invokestatic 121, 3) := by decide +kernel
theorem dX13_does_133 : decode cX13_does 133 = .ok (.ifCond .ne 27, 3) := by decide +kernel
theorem dX13_does_136 : decode cX13_does 136 = .ok (.aload_n 0, 1) := by decide +kernel
theorem dX13_does_137 : decode cX13_does 137 = .ok (.iload_n 3, 1) := by decide +kernel
theorem dX13_does_138 : decode cX13_does 138 = .ok (.iload 4, 2) := by decide +kernel
theorem dX13_does_140 : decode cX13_does 140 = .ok (.iload 5, 2) := by decide +kernel
theorem dX13_does_142 : decode cX13_does 142 = .ok (.aload_n 0, 1) := by decide +kernel
theorem dX13_does_143 : decode cX13_does 143 = .ok (.getfield 44, 3) := by decide +kernel
theorem dX13_does_146 : decode cX13_does 146 = .ok (.iload_n 2, 1) := by decide +kernel
theorem dX13_does_147 : decode cX13_does 147 = .ok (.iconst 3, 1) := by decide +kernel
theorem dX13_does_148 : decode cX13_does 148 = .ok (.iadd, 1) := by decide +kernel
theorem dX13_does_149 : decode cX13_does 149 = .ok (.iaload, 1) := by decide +kernel
theorem dX13_does_150 : decode cX13_does 150 = .ok (.invokevirtual 125, 3) := by decide +kernel
theorem dX13_does_153 : decode cX13_does 153 = .ok (.ifCond .lt 7, 3) := by decide +kernel
theorem dX13_does_156 : decode cX13_does 156 = .ok (.iconst 1, 1) := by decide +kernel
theorem dX13_does_157 : decode cX13_does 157 = .ok (.goto 4, 3) := by decide +kernel
theorem dX13_does_160 : decode cX13_does 160 = .ok (.iconst 0, 1) := by decide +kernel
theorem dX13_does_161 : decode cX13_does 161 = .ok (.ireturn, 1) := by decide +kernel
theorem dX13_does_162 : decode cX13_does 162 = .ok (.aload_n 0, 1) := by decide +kernel
theorem dX13_does_163 : decode cX13_does 163 = .ok (.iload_n 3, 1) := by decide +kernel
theorem dX13_does_164 : decode cX13_does 164 = .ok (.iload 4, 2) := by decide +kernel
theorem dX13_does_166 : decode cX13_does 166 = .ok (.iload 5, 2) := by decide +kernel
theorem dX13_does_168 : decode cX13_does 168 = .ok (.invokevirtual 169, 3) := by decide +kernel
theorem dX13_does_171 : decode cX13_does 171 = .ok (.ifCond .ne 19, 3) := by decide +kernel
theorem dX13_does_174 : decode cX13_does 174 = .ok (.aload_n 0, 1) := by decide +kernel
theorem dX13_does_175 : decode cX13_does 175 = .ok (.iload_n 3, 1) := by decide +kernel
theorem dX13_does_176 : decode cX13_does 176 = .ok (.iload 4, 2) := by decide +kernel
theorem dX13_does_178 : decode cX13_does 178 = .ok (.iload 5, 2) := by decide +kernel
theorem dX13_does_180 : decode cX13_does 180 = .ok (.invokevirtual 172, 3) := by decide +kernel
theorem dX13_does_183 : decode cX13_does 183 = .ok (.ifCond .lt 7, 3) := by decide +kernel
theorem dX13_does_186 : decode cX13_does 186 = .ok (.iconst 1, 1) := by decide +kernel
theorem dX13_does_187 : decode cX13_does 187 = .ok (.goto 4, 3) := by decide +kernel
theorem dX13_does_190 : decode cX13_does 190 = .ok (.iconst 0, 1) := by decide +kernel
theorem dX13_does_191 : decode cX13_does 191 = .ok (.ireturn, 1) := by decide +kernel
theorem dX13_does_192 : decode cX13_does 192 = .ok (.aload_n 0, 1) := by decide +kernel
theorem dX13_does_193 : decode cX13_does 193 = .ok (.iload_n 3, 1) := by decide +kernel
theorem dX13_does_194 : decode cX13_does 194 = .ok (.iload 4, 2) := by decide +kernel
theorem dX13_does_196 : decode cX13_does 196 = .ok (.iload 5, 2) := by decide +kernel
theorem dX13_does_198 : decode cX13_does 198 = .ok (.aload_n 0, 1) := by decide +kernel
theorem dX13_does_199 : decode cX13_does 199 = .ok (.getfield 44, 3) := by decide +kernel
theorem dX13_does_202 : decode cX13_does 202 = .ok (.iload_n 2, 1) := by decide +kernel
theorem dX13_does_203 : decode cX13_does 203 = .ok (.iconst 3, 1) := by decide +kernel
theorem dX13_does_204 : decode cX13_does 204 = .ok (.iadd, 1) := by decide +kernel
theorem dX13_does_205 : decode cX13_does 205 = .ok (.iaload, 1) := by decide +kernel
theorem dX13_does_206 : decode cX13_does 206 = .ok (.aload_n 0, 1) := by decide +kernel
theorem dX13_does_207 : decode cX13_does 207 = .ok (.getfield 44, 3) := by decide +kernel
theorem dX13_does_210 : decode cX13_does 210 = .ok (.iload_n 2, 1) := by decide +kernel
theorem dX13_does_211 : decode cX13_does 211 = .ok (.iconst 4, 1) := by decide +kernel
theorem dX13_does_212 : decode cX13_does 212 = .ok (.iadd, 1) := by decide +kernel
theorem dX13_does_213 : decode cX13_does 213 = .ok (.iaload, 1) := by decide +kernel
theorem dX13_does_214 : decode cX13_does 214 = .ok (.aload_n 0, 1) := by decide +kernel
theorem dX13_does_215 : decode cX13_does 215 = .ok (.getfield 44, 3) := by decide +kernel
theorem dX13_does_218 : decode cX13_does 218 = .ok (.iload_n 2, 1) := by decide +kernel
theorem dX13_does_219 : decode cX13_does 219 = .ok (.iconst 5, 1) := by decide +kernel
theorem dX13_does_220 : decode cX13_does 220 = .ok (.iadd, 1) := by decide +kernel
theorem dX13_does_221 : decode cX13_does 221 = .ok (.iaload, 1) := by decide +kernel
theorem dX13_does_222 : decode cX13_does 222 = .ok (.invokevirtual 193, 3) := by decide +kernel
theorem dX13_does_225 : decode cX13_does 225 = .ok (.ifCond .ne 43, 3) := by decide +kernel
theorem dX13_does_228 : decode cX13_does 228 = .ok (.aload_n 0, 1) := by decide +kernel
theorem dX13_does_229 : decode cX13_does 229 = .ok (.iload_n 3, 1) := by decide +kernel
theorem dX13_does_230 : decode cX13_does 230 = .ok (.iload 4, 2) := by decide +kernel
theorem dX13_does_232 : decode cX13_does 232 = .ok (.iload 5, 2) := by decide +kernel
theorem dX13_does_234 : decode cX13_does 234 = .ok (.aload_n 0, 1) := by decide +kernel
theorem dX13_does_235 : decode cX13_does 235 = .ok (.getfield 44, 3) := by decide +kernel
theorem dX13_does_238 : decode cX13_does 238 = .ok (.iload_n 2, 1) := by decide +kernel
theorem dX13_does_239 : decode cX13_does 239 = .ok (.iconst 3, 1) := by decide +kernel
theorem dX13_does_240 : decode cX13_does 240 = .ok (.iadd, 1) := by decide +kernel
theorem dX13_does_241 : decode cX13_does 241 = .ok (.iaload, 1) := by decide +kernel
theorem dX13_does_242 : decode cX13_does 242 = .ok (.aload_n 0, 1) := by decide +kernel
theorem dX13_does_243 : decode cX13_does 243 = .ok (.getfield 44, 3) := by decide +kernel
theorem dX13_does_246 : decode cX13_does 246 = .ok (.iload_n 2, 1) := by decide +kernel
theorem dX13_does_247 : decode cX13_does 247 = .ok (.iconst 4, 1) := by decide +kernel
theorem dX13_does_248 : decode cX13_does 248 = .ok (.iadd, 1) := by decide +kernel
theorem dX13_does_249 : decode cX13_does 249 = .ok (.iaload, 1) := by decide +kernel
theorem dX13_does_250 : decode cX13_does 250 = .ok (.aload_n 0, 1) := by decide +kernel
theorem dX13_does_251 : decode cX13_does 251 = .ok (.getfield 44, 3) := by decide +kernel
theorem dX13_does_254 : decode cX13_does 254 = .ok (.iload_n 2, 1) := by decide +kernel
theorem dX13_does_255 : decode cX13_does 255 = .ok (.iconst 5, 1) := by decide +kernel
theorem dX13_does_256 : decode cX13_does 256 = .ok (.iadd, 1) := by decide +kernel
theorem dX13_does_257 : decode cX13_does 257 = .ok (.iaload, 1) := by decide +kernel
theorem dX13_does_258 : decode cX13_does 258 = .ok (.invokevirtual 197, 3) := by decide +kernel
theorem dX13_does_261 : decode cX13_does 261 = .ok (.ifCond .lt 7, 3) := by decide +kernel
theorem dX13_does_264 : decode cX13_does 264 = .ok (.iconst 1, 1) := by decide +kernel
theorem dX13_does_265 : decode cX13_does 265 = .ok (.goto 4, 3) := by decide +kernel
theorem dX13_does_268 : decode cX13_does 268 = .ok (.iconst 0, 1) := by decide +kernel
theorem dX13_does_269 : decode cX13_does 269 = .ok (.ireturn, 1) := by decide +kernel
theorem dX13_does_270 : decode cX13_does 270 = .ok (.aload_n 0, 1) := by decide +kernel
theorem dX13_does_271 : decode cX13_does 271 = .ok (.iload_n 3, 1) := by decide +kernel
theorem dX13_does_272 : decode cX13_does 272 = .ok (.invokevirtual 233, 3) := by decide +kernel
theorem dX13_does_275 : decode cX13_does 275 = .ok (.ifCond .ne 15, 3) := by decide +kernel
theorem dX13_does_278 : decode cX13_does 278 = .ok (.aload_n 0, 1) := by decide +kernel
theorem dX13_does_279 : decode cX13_does 279 = .ok (.iload_n 3, 1) := by decide +kernel
theorem dX13_does_280 : decode cX13_does 280 = .ok (.invokevirtual 236, 3) := by decide +kernel
theorem dX13_does_283 : decode cX13_does 283 = .ok (.ifCond .lt 7, 3) := by decide +kernel
theorem dX13_does_286 : decode cX13_does 286 = .ok (.iconst 1, 1) := by decide +kernel
theorem dX13_does_287 : decode cX13_does 287 = .ok (.goto 4, 3) := by decide +kernel
theorem dX13_does_290 : decode cX13_does 290 = .ok (.iconst 0, 1) := by decide +kernel
theorem dX13_does_291 : decode cX13_does 291 = .ok (.ireturn, 1) := by decide +kernel
theorem dX13_does_292 : decode cX13_does 292 = .ok (.aload_n 0, 1) := by decide +kernel
theorem dX13_does_293 : decode cX13_does 293 = .ok (.iload_n 3, 1) := by decide +kernel
theorem dX13_does_294 : decode cX13_does 294 = .ok (.invokevirtual 248, 3) := by decide +kernel
theorem dX13_does_297 : decode cX13_does 297 = .ok (.ifCond .ne 15, 3) := by decide +kernel
theorem dX13_does_300 : decode cX13_does 300 = .ok (.aload_n 0, 1) := by decide +kernel
theorem dX13_does_301 : decode cX13_does 301 = .ok (.iload_n 3, 1) := by decide +kernel
theorem dX13_does_302 : decode cX13_does 302 = .ok (.invokevirtual 251, 3) := by decide +kernel
theorem dX13_does_305 : decode cX13_does 305 = .ok (.ifCond .lt 7, 3) := by decide +kernel
theorem dX13_does_308 : decode cX13_does 308 = .ok (.iconst 1, 1) := by decide +kernel
theorem dX13_does_309 : decode cX13_does 309 = .ok (.goto 4, 3) := by decide +kernel
theorem dX13_does_312 : decode cX13_does 312 = .ok (.iconst 0, 1) := by decide +kernel
theorem dX13_does_313 : decode cX13_does 313 = .ok (.ireturn, 1) := by decide +kernel
theorem dX13_does_314 : decode cX13_does 314 = .ok (.aload_n 0, 1) := by decide +kernel
theorem dX13_does_315 : decode cX13_does 315 = .ok (.iload_n 3, 1) := by decide +kernel
theorem dX13_does_316 : decode cX13_does 316 = .ok (.invokevirtual 254, 3) := by decide +kernel
theorem dX13_does_319 : decode cX13_does 319 = .ok (.ifCond .ne 15, 3) := by decide +kernel
theorem dX13_does_322 : decode cX13_does 322 = .ok (.aload_n 0, 1) := by decide +kernel
theorem dX13_does_323 : decode cX13_does 323 = .ok (.iload_n 3, 1) := by decide +kernel
theorem dX13_does_324 : decode cX13_does 324 = .ok (.invokevirtual 257, 3) := by decide +kernel
theorem dX13_does_327 : decode cX13_does 327 = .ok (.ifCond .lt 7, 3) := by decide +kernel
theorem dX13_does_330 : decode cX13_does 330 = .ok (.iconst 1, 1) := by decide +kernel
theorem dX13_does_331 : decode cX13_does 331 = .ok (.goto 4, 3) := by decide +kernel
theorem dX13_does_334 : decode cX13_does 334 = .ok (.iconst 0, 1) := by decide +kernel
theorem dX13_does_335 : decode cX13_does 335 = .ok (.ireturn, 1) := by decide +kernel
theorem dX13_does_336 : decode cX13_does 336 = .ok (.aload_n 0, 1) := by decide +kernel
theorem dX13_does_337 : decode cX13_does 337 = .ok (.iload_n 3, 1) := by decide +kernel
theorem dX13_does_338 : decode cX13_does 338 = .ok (.invokevirtual 150, 3) := by decide +kernel
theorem dX13_does_341 : decode cX13_does 341 = .ok (.ifCond .ne 15, 3) := by decide +kernel
theorem dX13_does_344 : decode cX13_does 344 = .ok (.aload_n 0, 1) := by decide +kernel
theorem dX13_does_345 : decode cX13_does 345 = .ok (.iload_n 3, 1) := by decide +kernel
theorem dX13_does_346 : decode cX13_does 346 = .ok (.invokevirtual 153, 3) := by decide +kernel
theorem dX13_does_349 : decode cX13_does 349 = .ok (.ifCond .lt 7, 3) := by decide +kernel
theorem dX13_does_352 : decode cX13_does 352 = .ok (.iconst 1, 1) := by decide +kernel
theorem dX13_does_353 : decode cX13_does 353 = .ok (.goto 4, 3) := by decide +kernel
theorem dX13_does_356 : decode cX13_does 356 = .ok (.iconst 0, 1) := by decide +kernel
theorem dX13_does_357 : decode cX13_does 357 = .ok (.ireturn, 1) := by decide +kernel
theorem dX13_does_358 : decode cX13_does 358 = .ok (.aload_n 0, 1) := by decide +kernel
theorem dX13_does_359 : decode cX13_does 359 = .ok (.iload_n 3, 1) := by decide +kernel
theorem dX13_does_360 : decode cX13_does 360 = .ok (.invokevirtual 156, 3) := by decide +kernel
theorem dX13_does_363 : decode cX13_does 363 = .ok (.ifCond .lt 7, 3) := by decide +kernel
theorem dX13_does_366 : decode cX13_does 366 = .ok (.iconst 1, 1) := by decide +kernel
theorem dX13_does_367 : decode cX13_does 367 = .ok (.goto 4, 3) := by decide +kernel
theorem dX13_does_370 : decode cX13_does 370 = .ok (.iconst 0, 1) := by decide +kernel
theorem dX13_does_371 : decode cX13_does 371 = .ok (.ireturn, 1) := by decide +kernel
theorem dX13_run_0 : decode cX13_run 0 = .ok (.aload_n 0, 1) := by decide +kernel
theorem dX13_run_1 : decode cX13_run 1 = .ok (.iconst 0, 1) := by decide +kernel
theorem dX13_run_2 : decode cX13_run 2 = .ok (.putfield 54, 3) := by decide +kernel
theorem dX13_run_5 : decode cX13_run 5 = .ok (.aload_n 0, 1) := by decide +kernel
theorem dX13_run_6 : decode cX13_run 6 = .ok (.invokevirtual 372, 3) := by decide +kernel
theorem dX13_run_9 : decode cX13_run 9 = .ok (.istore_n 1, 1) := by decide +kernel
theorem dX13_run_10 : decode cX13_run 10 = .ok (.aload_n 0, 1) := by decide +kernel
theorem dX13_run_11 : decode cX13_run 11 = .ok (.iconst 0, 1) := by decide +kernel
theorem dX13_run_12 : decode cX13_run 12 = .ok (.putfield 307, 3) := by decide +kernel
theorem dX13_run_15 : decode cX13_run 15 = .ok (.aload_n 0, 1) := by decide +kernel
theorem dX13_run_16 : decode cX13_run 16 = .ok (.iload_n 1, 1) := by decide +kernel
theorem dX13_run_17 : decode cX13_run 17 = .ok (.ifCond .eq 7, 3) := by decide +kernel
theorem dX13_run_20 : decode cX13_run 20 = .ok (.iconst (-1), 1) := by decide +kernel
theorem dX13_run_21 : decode cX13_run 21 = .ok (.goto 7, 3) := by decide +kernel
theorem dX13_run_24 : decode cX13_run 24 = .ok (.aload_n 0, 1) := by decide +kernel
theorem dX13_run_25 : decode cX13_run 25 = .ok (.getfield 331, 3) := by decide +kernel
theorem dX13_run_28 : decode cX13_run 28 = .ok (.putfield 40, 3) := by decide +kernel
theorem dX13_run_31 : decode cX13_run 31 = .ok (.iload_n 1, 1) := by decide +kernel
theorem dX13_run_32 : decode cX13_run 32 = .ok (.ifCond .ne 9, 3) := by decide +kernel
theorem dX13_run_35 : decode cX13_run 35 = .ok (.aload_n 0, 1) := by decide +kernel
theorem dX13_run_36 : decode cX13_run 36 = .ok (.iconst 1, 1) := by decide +kernel
theorem dX13_run_37 : decode cX13_run 37 = .ok (.invokevirtual 289, 3) := by decide +kernel
theorem dX13_run_40 : decode cX13_run 40 = .ok (.ireturn, 1) := by decide +kernel
theorem dX13_run_41 : decode cX13_run 41 = .ok (.aload_n 0, 1) := by decide +kernel
theorem dX13_run_42 : decode cX13_run 42 = .ok (.getfield 7, 3) := by decide +kernel
theorem dX13_run_45 : decode cX13_run 45 = .ok (.iconst 0, 1) := by decide +kernel
theorem dX13_run_46 : decode cX13_run 46 = .ok (.aload_n 0, 1) := by decide +kernel
theorem dX13_run_47 : decode cX13_run 47 = .ok (.getfield 16, 3) := by decide +kernel
theorem dX13_run_50 : decode cX13_run 50 = .ok (.iconst 0, 1) := by decide +kernel
theorem dX13_run_51 : decode cX13_run 51 = .ok (.invokestatic 60, 3) := by decide +kernel
theorem dX13_run_54 : decode cX13_run 54 = .ok (.iconst 0, 1) := by decide +kernel
theorem dX13_run_55 : decode cX13_run 55 = .ok (.istore_n 2, 1) := by decide +kernel
theorem dX13_run_56 : decode cX13_run 56 = .ok (.iload_n 2, 1) := by decide +kernel
theorem dX13_run_57 : decode cX13_run 57 = .ok (.aload_n 0, 1) := by decide +kernel
theorem dX13_run_58 : decode cX13_run 58 = .ok (.getfield 353, 3) := by decide +kernel
theorem dX13_run_61 : decode cX13_run 61 = .ok (.if_icmp .ge 51, 3) := by decide +kernel
theorem dX13_run_64 : decode cX13_run 64 = .ok (.aload_n 0, 1) := by decide +kernel
theorem dX13_run_65 : decode cX13_run 65 = .ok (.iload_n 2, 1) := by decide +kernel
theorem dX13_run_66 : decode cX13_run 66 = .ok (.invokevirtual 375, 3) := by decide +kernel
theorem dX13_run_69 : decode cX13_run 69 = .ok (.ifCond .ne 37, 3) := by decide +kernel
theorem dX13_run_72 : decode cX13_run 72 = .ok (.aload_n 0, 1) := by decide +kernel
theorem dX13_run_73 : decode cX13_run 73 = .ok (.getfield 16, 3) := by decide +kernel
theorem dX13_run_76 : decode cX13_run 76 = .ok (.iconst 0, 1) := by decide +kernel
theorem dX13_run_77 : decode cX13_run 77 = .ok (.aload_n 0, 1) := by decide +kernel
theorem dX13_run_78 : decode cX13_run 78 = .ok (.getfield 7, 3) := by decide +kernel
theorem dX13_run_81 : decode cX13_run 81 = .ok (.iconst 0, 1) := by decide +kernel
theorem dX13_run_82 : decode cX13_run 82 = .ok (.invokestatic 60, 3) := by decide +kernel
theorem dX13_run_85 : decode cX13_run 85 = .ok (.aload_n 0, 1) := by decide +kernel
theorem dX13_run_86 : decode cX13_run 86 = .ok (.aload_n 0, 1) := by decide +kernel
theorem dX13_run_87 : decode cX13_run 87 = .ok (.getfield 44, 3) := by decide +kernel
theorem dX13_run_90 : decode cX13_run 90 = .ok (.bipush 9, 2) := by decide +kernel
theorem dX13_run_92 : decode cX13_run 92 = .ok (.iload_n 2, 1) := by decide +kernel
theorem dX13_run_93 : decode cX13_run 93 = .ok (.imul, 1) := by decide +kernel
theorem dX13_run_94 : decode cX13_run 94 = .ok (.iconst 1, 1) := by decide +kernel
theorem dX13_run_95 : decode cX13_run 95 = .ok (.iadd, 1) := by decide +kernel
theorem dX13_run_96 : decode cX13_run 96 = .ok (.iaload, 1) := by decide +kernel
theorem dX13_run_97 : decode cX13_run 97 = .ok (.putfield 40, 3) := by decide +kernel
theorem dX13_run_100 : decode cX13_run 100 = .ok (.aload_n 0, 1) := by decide +kernel
theorem dX13_run_101 : decode cX13_run 101 = .ok (.iconst 2, 1) := by decide +kernel
theorem dX13_run_102 : decode cX13_run 102 = .ok (.invokevirtual 289, 3) := by decide +kernel
theorem dX13_run_105 : decode cX13_run 105 = .ok (.ireturn, 1) := by decide +kernel
theorem dX13_run_106 : decode cX13_run 106 = .ok (.iinc 2 1, 3) := by decide +kernel
theorem dX13_run_109 : decode cX13_run 109 = .ok (.goto (-53), 3) := by decide +kernel
theorem dX13_run_112 : decode cX13_run 112 = .ok (.aload_n 0, 1) := by decide +kernel
theorem dX13_run_113 : decode cX13_run 113 = .ok (.aload_n 0, 1) := by decide +kernel
theorem dX13_run_114 : decode cX13_run 114 = .ok (.getfield 16, 3) := by decide +kernel
theorem dX13_run_117 : decode cX13_run 117 = .ok (.invokevirtual 111, 3) := by decide +kernel
theorem dX13_run_120 : decode cX13_run 120 = .ok (.aload_n 0, 1) := by decide +kernel
theorem dX13_run_121 : decode cX13_run 121 = .ok (.getfield 353, 3) := by decide +kernel
theorem dX13_run_124 : decode cX13_run 124 = .ok (.ireturn, 1) := by decide +kernel
theorem dX13_errorPosition_0 : decode cX13_errorPosition 0 = .ok (.aload_n 0, 1) := by decide +kernel
theorem dX13_errorPosition_1 : decode cX13_errorPosition 1 = .ok (.iconst 0, 1) := by decide +kernel
theorem dX13_errorPosition_2 : decode cX13_errorPosition 2 = .ok (.putfield 54, 3) := by decide +kernel
theorem dX13_errorPosition_5 : decode cX13_errorPosition 5 = .ok (.aload_n 0, 1) := by decide +kernel
theorem dX13_errorPosition_6 : decode cX13_errorPosition 6 = .ok (.getfield 40, 3) := by decide +kernel
theorem dX13_errorPosition_9 : decode cX13_errorPosition 9 = .ok (.ireturn, 1) := by decide +kernel
theorem dX13_severityName_0 : decode cX13_severityName 0 = .ok (.iload_n 0, 1) := by decide +kernel
theorem dX13_severityName_1 : decode cX13_severityName 1 = .ok (.ifCond .ne 9, 3) := by decide +kernel
theorem dX13_severityName_4 : decode cX13_severityName 4 = .ok (.ldc_w 378, 3) := by decide +kernel
theorem dX13_severityName_7 : decode cX13_severityName 7 = .ok (.goto 17, 3) := by decide +kernel
theorem dX13_severityName_10 : decode cX13_severityName 10 = .ok (.iload_n 0, 1) := by decide +kernel
theorem dX13_severityName_11 : decode cX13_severityName 11 = .ok (.iconst 1, 1) := by decide +kernel
theorem dX13_severityName_12 : decode cX13_severityName 12 = .ok (.if_icmp .ne 9, 3) := by decide +kernel
theorem dX13_severityName_15 : decode cX13_severityName 15 = .ok (.ldc_w 380, 3) := by decide +kernel
theorem dX13_severityName_18 : decode cX13_severityName 18 = .ok (.goto 6, 3) := by decide +kernel
theorem dX13_severityName_21 : decode cX13_severityName 21 = .ok (.ldc_w 382, 3) := by decide +kernel
theorem dX13_severityName_24 : decode cX13_severityName 24 = .ok (.areturn, 1) := by decide +kernel
theorem dX13_statusName_0 : decode cX13_statusName 0 = .ok (.iload_n 0, 1) := by decide +kernel
theorem dX13_statusName_1 : decode cX13_statusName 1 = .ok (.ifCond .ne 9, 3) := by decide +kernel
theorem dX13_statusName_4 : decode cX13_statusName 4 = .ok (.ldc_w 384, 3) := by decide +kernel
theorem dX13_statusName_7 : decode cX13_statusName 7 = .ok (.goto 28, 3) := by decide +kernel
theorem dX13_statusName_10 : decode cX13_statusName 10 = .ok (.iload_n 0, 1) := by decide +kernel
theorem dX13_statusName_11 : decode cX13_statusName 11 = .ok (.iconst 1, 1) := by decide +kernel
theorem dX13_statusName_12 : decode cX13_statusName 12 = .ok (.if_icmp .ne 9, 3) := by decide +kernel
theorem dX13_statusName_15 : decode cX13_statusName 15 = .ok (.ldc_w 386, 3) := by decide +kernel
theorem dX13_statusName_18 : decode cX13_statusName 18 = .ok (.goto 17, 3) := by decide +kernel
theorem dX13_statusName_21 : decode cX13_statusName 21 = .ok (.iload_n 0, 1) := by decide +kernel
theorem dX13_statusName_22 : decode cX13_statusName 22 = .ok (.iconst 2, 1) := by decide +kernel
theorem dX13_statusName_23 : decode cX13_statusName 23 = .ok (.if_icmp .ne 9, 3) := by decide +kernel
theorem dX13_statusName_26 : decode cX13_statusName 26 = .ok (.ldc_w 388, 3) := by decide +kernel
theorem dX13_statusName_29 : decode cX13_statusName 29 = .ok (.goto 6, 3) := by decide +kernel
theorem dX13_statusName_32 : decode cX13_statusName 32 = .ok (.ldc_w 390, 3) := by decide +kernel
theorem dX13_statusName_35 : decode cX13_statusName 35 = .ok (.areturn, 1) := by decide +kernel
theorem dX13_report_0 : decode cX13_report 0 = .ok (.aload_n 0, 1) := by decide +kernel
theorem dX13_report_1 : decode cX13_report 1 = .ok (.aload_n 0, 1) := by decide +kernel
theorem dX13_report_2 : decode cX13_report 2 = .ok (.iload_n 1, 1) := by decide +kernel
theorem dX13_report_3 : decode cX13_report 3 = .ok (.invokevirtual 76, 3) := by decide +kernel
theorem dX13_report_6 : decode cX13_report 6 = .ok (.ifCond .eq 7, 3) := by decide +kernel
theorem dX13_report_9 : decode cX13_report 9 = .ok (.iconst 0, 1) := by decide +kernel
theorem dX13_report_10 : decode cX13_report 10 = .ok (.goto 4, 3) := by decide +kernel
theorem dX13_report_13 : decode cX13_report 13 = .ok (.iconst 1, 1) := by decide +kernel
theorem dX13_report_14 : decode cX13_report 14 = .ok (.putfield 54, 3) := by decide +kernel
theorem dX13_report_17 : decode cX13_report 17 = .ok (.aload_n 0, 1) := by decide +kernel
theorem dX13_report_18 : decode cX13_report 18 = .ok (.getfield 54, 3) := by decide +kernel
theorem dX13_report_21 : decode cX13_report 21 = .ok (.ifCond .le 5, 3) := by decide +kernel
theorem dX13_report_24 : decode cX13_report 24 = .ok (.iconst 0, 1) := by decide +kernel
theorem dX13_report_25 : decode cX13_report 25 = .ok (.ireturn, 1) := by decide +kernel
theorem dX13_report_26 : decode cX13_report 26 = .ok (.aload_n 0, 1) := by decide +kernel
theorem dX13_report_27 : decode cX13_report 27 = .ok (.getfield 50, 3) := by decide +kernel
theorem dX13_report_30 : decode cX13_report 30 = .ok (.iconst 0, 1) := by decide +kernel
theorem dX13_report_31 : decode cX13_report 31 = .ok (.invokevirtual 392, 3) := by decide +kernel
theorem dX13_report_34 : decode cX13_report 34 = .ok (.aload_n 0, 1) := by decide +kernel
theorem dX13_report_35 : decode cX13_report 35 = .ok (.getfield 50, 3) := by decide +kernel
theorem dX13_report_38 : decode cX13_report 38 = .ok (.ldc_w 396, 3) := by decide +kernel
theorem dX13_report_41 : decode cX13_report 41 = .ok (.invokevirtual 398, 3) := by decide +kernel
theorem dX13_report_44 : decode cX13_report 44 = .ok (.iload_n 1, 1) := by decide +kernel
theorem dX13_report_45 : decode cX13_report 45 = .ok (.invokevirtual 402, 3) := by decide +kernel
theorem dX13_report_48 : decode cX13_report 48 = .ok (.ldc_w 405, 3) := by decide +kernel
theorem dX13_report_51 : decode cX13_report 51 = .ok (.invokevirtual 398, 3) := by decide +kernel
theorem dX13_report_54 : decode cX13_report 54 = .ok (.aload_n 0, 1) := by decide +kernel
theorem dX13_report_55 : decode cX13_report 55 = .ok (.getfield 7, 3) := by decide +kernel
theorem dX13_report_58 : decode cX13_report 58 = .ok (.iload_n 1, 1) := by decide +kernel
theorem dX13_report_59 : decode cX13_report 59 = .ok (.iconst 0, 1) := by decide +kernel
theorem dX13_report_60 : decode cX13_report 60 = .ok (.invokestatic 72, 3) := by decide +kernel
theorem dX13_report_63 : decode cX13_report 63 = .ok (.iaload, 1) := by decide +kernel
theorem dX13_report_64 : decode cX13_report 64 = .ok (.invokevirtual 402, 3) := by decide +kernel
theorem dX13_report_67 : decode cX13_report 67 = .ok (.ldc_w 407, 3) := by decide +kernel
theorem dX13_report_70 : decode cX13_report 70 = .ok (.invokevirtual 398, 3) := by decide +kernel
theorem dX13_report_73 : decode cX13_report 73 = .ok (.aload_n 0, 1) := by decide +kernel
theorem dX13_report_74 : decode cX13_report 74 = .ok (.iload_n 1, 1) := by decide +kernel
theorem dX13_report_75 : decode cX13_report 75 = .ok (.iconst 0, 1) := by decide +kernel
theorem dX13_report_76 : decode cX13_report 76 = .ok (.invokevirtual 175, 3) := by decide +kernel
theorem dX13_report_79 : decode cX13_report 79 = .ok (.invokevirtual 402, 3) := by decide +kernel
theorem dX13_report_82 : decode cX13_report 82 = .ok (.ldc_w 409, 3) := by decide +kernel
theorem dX13_report_85 : decode cX13_report 85 = .ok (.invokevirtual 398, 3) := by decide +kernel
theorem dX13_report_88 : decode cX13_report 88 = .ok (.aload_n 0, 1) := by decide +kernel
theorem dX13_report_89 : decode cX13_report 89 = .ok (.iload_n 1, 1) := by decide +kernel
theorem dX13_report_90 : decode cX13_report 90 = .ok (.invokevirtual 80, 3) := by decide +kernel
theorem dX13_report_93 : decode cX13_report 93 = .ok (.invokevirtual 402, 3) := by decide +kernel
theorem dX13_report_96 : decode cX13_report 96 = .ok (.ldc_w 411, 3) := by decide +kernel
theorem dX13_report_99 : decode cX13_report 99 = .ok (.invokevirtual 398, 3) := by decide +kernel
theorem dX13_report_102 : decode cX13_report 102 = .ok (.pop, 1) := by decide +kernel
theorem dX13_report_103 : decode cX13_report 103 = .ok (.aload_n 0, 1) := by decide +kernel
theorem dX13_report_104 : decode cX13_report 104 = .ok (.getfield 7, 3) := by decide +kernel
theorem dX13_report_107 : decode cX13_report 107 = .ok (.iload_n 1, 1) := by decide +kernel
theorem dX13_report_108 : decode cX13_report 108 = .ok (.iconst 3, 1) := by decide +kernel
theorem dX13_report_109 : decode cX13_report 109 = .ok (.invokestatic 72, 3) := by decide +kernel
theorem dX13_report_112 : decode cX13_report 112 = .ok (.iaload, 1) := by decide +kernel
theorem dX13_report_113 : decode cX13_report 113 = .ok (.ifCond .ne 17, 3) := by decide +kernel
theorem dX13_report_116 : decode cX13_report 116 = .ok (.aload_n 0, 1) := by decide +kernel
theorem dX13_report_117 : decode cX13_report 117 = .ok (.getfield 50, 3) := by decide +kernel
theorem dX13_report_120 : decode cX13_report 120 = .ok (.ldc_w 413, 3) := by decide +kernel
theorem dX13_report_123 : decode cX13_report 123 = .ok (.invokevirtual 398, 3) := by decide +kernel
theorem dX13_report_126 : decode cX13_report 126 = .ok (.pop, 1) := by decide +kernel
theorem dX13_report_127 : decode cX13_report 127 = .ok (.goto 81, 3) := by decide +kernel
theorem dX13_report_130 : decode cX13_report 130 = .ok (.aload_n 0, 1) := by decide +kernel
theorem dX13_report_131 : decode cX13_report 131 = .ok (.getfield 50, 3) := by decide +kernel
theorem dX13_report_134 : decode cX13_report 134 = .ok (.aload_n 0, 1) := by decide +kernel
theorem dX13_report_135 : decode cX13_report 135 = .ok (.getfield 7, 3) := by decide +kernel
theorem dX13_report_138 : decode cX13_report 138 = .ok (.iload_n 1, 1) := by decide +kernel
theorem dX13_report_139 : decode cX13_report 139 = .ok (.iconst 4, 1) := by decide +kernel
theorem dX13_report_140 : decode cX13_report 140 = .ok (.invokestatic 72, 3) := by decide +kernel
theorem dX13_report_143 : decode cX13_report 143 = .ok (.iaload, 1) := by decide +kernel
theorem dX13_report_144 : decode cX13_report 144 = .ok (.invokestatic 415, 3) := by decide +kernel
theorem dX13_report_147 : decode cX13_report 147 = .ok (.invokevirtual 398, 3) := by decide +kernel
theorem dX13_report_150 : decode cX13_report 150 = .ok (.bipush 32, 2) := by decide +kernel
theorem dX13_report_152 : decode cX13_report 152 = .ok (.invokevirtual 418, 3) := by decide +kernel
theorem dX13_report_155 : decode cX13_report 155 = .ok (.aload_n 0, 1) := by decide +kernel
theorem dX13_report_156 : decode cX13_report 156 = .ok (.getfield 7, 3) := by decide +kernel
theorem dX13_report_159 : decode cX13_report 159 = .ok (.iload_n 1, 1) := by decide +kernel
theorem dX13_report_160 : decode cX13_report 160 = .ok (.iconst 5, 1) := by decide +kernel
theorem dX13_report_161 : decode cX13_report 161 = .ok (.invokestatic 72, 3) := by decide +kernel
theorem dX13_report_164 : decode cX13_report 164 = .ok (.iaload, 1) := by decide +kernel
theorem dX13_report_165 : decode cX13_report 165 = .ok (.invokevirtual 402, 3) := by decide +kernel
theorem dX13_report_168 : decode cX13_report 168 = .ok (.bipush 47, 2) := by decide +kernel
theorem dX13_report_170 : decode cX13_report 170 = .ok (.invokevirtual 418, 3) := by decide +kernel
theorem dX13_report_173 : decode cX13_report 173 = .ok (.aload_n 0, 1) := by decide +kernel
theorem dX13_report_174 : decode cX13_report 174 = .ok (.getfield 7, 3) := by decide +kernel
theorem dX13_report_177 : decode cX13_report 177 = .ok (.iload_n 1, 1) := by decide +kernel
theorem dX13_report_178 : decode cX13_report 178 = .ok (.bipush 6, 2) := by decide +kernel
theorem dX13_report_180 : decode cX13_report 180 = .ok (.invokestatic 72, 3) := by decide +kernel
theorem dX13_report_183 : decode cX13_report 183 = .ok (.iaload, 1) := by decide +kernel
theorem dX13_report_184 : decode cX13_report 184 = .ok (.invokevirtual 402, 3) := by decide +kernel
theorem dX13_report_187 : decode cX13_report 187 = .ok (.ldc_w 421, 3) := by decide +kernel
theorem dX13_report_190 : decode cX13_report 190 = .ok (.invokevirtual 398, 3) := by decide +kernel
theorem dX13_report_193 : decode cX13_report 193 = .ok (.aload_n 0, 1) := by decide +kernel
theorem dX13_report_194 : decode cX13_report 194 = .ok (.getfield 7, 3) := by decide +kernel
theorem dX13_report_197 : decode cX13_report 197 = .ok (.iload_n 1, 1) := by decide +kernel
theorem dX13_report_198 : decode cX13_report 198 = .ok (.bipush 7, 2) := by decide +kernel
theorem dX13_report_200 : decode cX13_report 200 = .ok (.invokestatic 72, 3) := by decide +kernel
theorem dX13_report_203 : decode cX13_report 203 = .ok (.iaload, 1) := by decide +kernel
theorem dX13_report_204 : decode cX13_report 204 = .ok (.invokevirtual 402, 3) := by decide +kernel
theorem dX13_report_207 : decode cX13_report 207 = .ok (.pop, 1) := by decide +kernel
theorem dX13_report_208 : decode cX13_report 208 = .ok (.aload_n 0, 1) := by decide +kernel
theorem dX13_report_209 : decode cX13_report 209 = .ok (.getfield 50, 3) := by decide +kernel
theorem dX13_report_212 : decode cX13_report 212 = .ok (.ldc_w 407, 3) := by decide +kernel
theorem dX13_report_215 : decode cX13_report 215 = .ok (.invokevirtual 398, 3) := by decide +kernel
theorem dX13_report_218 : decode cX13_report 218 = .ok (.aload_n 0, 1) := by decide +kernel
theorem dX13_report_219 : decode cX13_report 219 = .ok (.getfield 7, 3) := by decide +kernel
theorem dX13_report_222 : decode cX13_report 222 = .ok (.iload_n 1, 1) := by decide +kernel
theorem dX13_report_223 : decode cX13_report 223 = .ok (.iconst 2, 1) := by decide +kernel
theorem dX13_report_224 : decode cX13_report 224 = .ok (.invokestatic 72, 3) := by decide +kernel
theorem dX13_report_227 : decode cX13_report 227 = .ok (.iaload, 1) := by decide +kernel
theorem dX13_report_228 : decode cX13_report 228 = .ok (.invokestatic 423, 3) := by decide +kernel
theorem dX13_report_231 : decode cX13_report 231 = .ok (.invokevirtual 398, 3) := by decide +kernel
theorem dX13_report_234 : decode cX13_report 234 = .ok (.pop, 1) := by decide +kernel
theorem dX13_report_235 : decode cX13_report 235 = .ok (.aload_n 0, 1) := by decide +kernel
theorem dX13_report_236 : decode cX13_report 236 = .ok (.getfield 50, 3) := by decide +kernel
theorem dX13_report_239 : decode cX13_report 239 = .ok (.invokevirtual 426, 3) := by decide +kernel
theorem dX13_report_242 : decode cX13_report 242 = .ok (.ireturn, 1) := by decide +kernel
theorem dX13_character_0 : decode cX13_character 0 = .ok (.aload_n 0, 1) := by decide +kernel
theorem dX13_character_1 : decode cX13_character 1 = .ok (.iload_n 1, 1) := by decide +kernel
theorem dX13_character_2 : decode cX13_character 2 = .ok (.iconst 0, 1) := by decide +kernel
theorem dX13_character_3 : decode cX13_character 3 = .ok (.aload_n 0, 1) := by decide +kernel
theorem dX13_character_4 : decode cX13_character 4 = .ok (.getfield 50, 3) := by decide +kernel
theorem dX13_character_7 : decode cX13_character 7 = .ok (.invokevirtual 426, 3) := by decide +kernel
theorem dX13_character_10 : decode cX13_character 10 = .ok (.iconst 1, 1) := by decide +kernel
theorem dX13_character_11 : decode cX13_character 11 = .ok (.isub, 1) := by decide +kernel
theorem dX13_character_12 : decode cX13_character 12 = .ok (.invokestatic 68, 3) := by decide +kernel
theorem dX13_character_15 : decode cX13_character 15 = .ok (.ifCond .eq 7, 3) := by decide +kernel
theorem dX13_character_18 : decode cX13_character 18 = .ok (.iconst 0, 1) := by decide +kernel
theorem dX13_character_19 : decode cX13_character 19 = .ok (.goto 4, 3) := by decide +kernel
theorem dX13_character_22 : decode cX13_character 22 = .ok (.iconst 1, 1) := by decide +kernel
theorem dX13_character_23 : decode cX13_character 23 = .ok (.putfield 54, 3) := by decide +kernel
theorem dX13_character_26 : decode cX13_character 26 = .ok (.aload_n 0, 1) := by decide +kernel
theorem dX13_character_27 : decode cX13_character 27 = .ok (.getfield 54, 3) := by decide +kernel
theorem dX13_character_30 : decode cX13_character 30 = .ok (.ifCond .le 8, 3) := by decide +kernel
theorem dX13_character_33 : decode cX13_character 33 = .ok (.bipush 97, 2) := by decide +kernel
theorem dX13_character_35 : decode cX13_character 35 = .ok (.goto 11, 3) := by decide +kernel
theorem dX13_character_38 : decode cX13_character 38 = .ok (.aload_n 0, 1) := by decide +kernel
theorem dX13_character_39 : decode cX13_character 39 = .ok (.getfield 50, 3) := by decide +kernel
theorem dX13_character_42 : decode cX13_character 42 = .ok (.iload_n 1, 1) := by decide +kernel
theorem dX13_character_43 : decode cX13_character 43 = .ok (.invokevirtual 427, 3) := by decide +kernel
theorem dX13_character_46 : decode cX13_character 46 = .ok (.ireturn, 1) := by decide +kernel
theorem dX13_allUnits_0 : decode cX13_allUnits 0 = .ok (.iconst 0, 1) := by decide +kernel
theorem dX13_allUnits_1 : decode cX13_allUnits 1 = .ok (.istore_n 2, 1) := by decide +kernel
theorem dX13_allUnits_2 : decode cX13_allUnits 2 = .ok (.iconst 0, 1) := by decide +kernel
theorem dX13_allUnits_3 : decode cX13_allUnits 3 = .ok (.istore_n 3, 1) := by decide +kernel
theorem dX13_allUnits_4 : decode cX13_allUnits 4 = .ok (.iload_n 3, 1) := by decide +kernel
theorem dX13_allUnits_5 : decode cX13_allUnits 5 = .ok (.aload_n 0, 1) := by decide +kernel
theorem dX13_allUnits_6 : decode cX13_allUnits 6 = .ok (.getfield 7, 3) := by decide +kernel
theorem dX13_allUnits_9 : decode cX13_allUnits 9 = .ok (.iconst 0, 1) := by decide +kernel
theorem dX13_allUnits_10 : decode cX13_allUnits 10 = .ok (.iaload, 1) := by decide +kernel
theorem dX13_allUnits_11 : decode cX13_allUnits 11 = .ok (.if_icmp .ge 30, 3) := by decide +kernel
theorem dX13_allUnits_14 : decode cX13_allUnits 14 = .ok (.iload_n 2, 1) := by decide +kernel
theorem dX13_allUnits_15 : decode cX13_allUnits 15 = .ok (.iload_n 1, 1) := by decide +kernel
theorem dX13_allUnits_16 : decode cX13_allUnits 16 = .ok (.ifCond .ge 11, 3) := by decide +kernel
theorem dX13_allUnits_19 : decode cX13_allUnits 19 = .ok (.aload_n 0, 1) := by decide +kernel
theorem dX13_allUnits_20 : decode cX13_allUnits 20 = .ok (.iload_n 3, 1) := by decide +kernel
theorem dX13_allUnits_21 : decode cX13_allUnits 21 = .ok (.invokevirtual 80, 3) := by decide +kernel
theorem dX13_allUnits_24 : decode cX13_allUnits 24 = .ok (.goto 9, 3) := by decide +kernel
theorem dX13_allUnits_27 : decode cX13_allUnits 27 = .ok (.aload_n 0, 1) := by decide +kernel
theorem dX13_allUnits_28 : decode cX13_allUnits 28 = .ok (.iload_n 3, 1) := by decide +kernel
theorem dX13_allUnits_29 : decode cX13_allUnits 29 = .ok (.iload_n 1, 1) := by decide +kernel
theorem dX13_allUnits_30 : decode cX13_allUnits 30 = .ok (.invokevirtual 175, 3) := by decide +kernel
theorem dX13_allUnits_33 : decode cX13_allUnits 33 = .ok (.iadd, 1) := by decide +kernel
theorem dX13_allUnits_34 : decode cX13_allUnits 34 = .ok (.istore_n 2, 1) := by decide +kernel
theorem dX13_allUnits_35 : decode cX13_allUnits 35 = .ok (.iinc 3 1, 3) := by decide +kernel
theorem dX13_allUnits_38 : decode cX13_allUnits 38 = .ok (.goto (-34), 3) := by decide +kernel
theorem dX13_allUnits_41 : decode cX13_allUnits 41 = .ok (.iload_n 2, 1) := by decide +kernel
theorem dX13_allUnits_42 : decode cX13_allUnits 42 = .ok (.ireturn, 1) := by decide +kernel
theorem dX13_count_0 : decode cX13_count 0 = .ok (.aload_n 0, 1) := by decide +kernel
theorem dX13_count_1 : decode cX13_count 1 = .ok (.iconst 0, 1) := by decide +kernel
theorem dX13_count_2 : decode cX13_count 2 = .ok (.putfield 54, 3) := by decide +kernel
theorem dX13_count_5 : decode cX13_count 5 = .ok (.iload_n 1, 1) := by decide +kernel
theorem dX13_count_6 : decode cX13_count 6 = .ok (.tableswitch 86 0 6 #[42, 49, 55, 62, 69, 74, 79], 42) := by decide +kernel
theorem dX13_count_48 : decode cX13_count 48 = .ok (.aload_n 0, 1) := by decide +kernel
theorem dX13_count_49 : decode cX13_count 49 = .ok (.getfield 7, 3) := by decide +kernel
theorem dX13_count_52 : decode cX13_count 52 = .ok (.iconst 0, 1) := by decide +kernel
theorem dX13_count_53 : decode cX13_count 53 = .ok (.iaload, 1) := by decide +kernel
theorem dX13_count_54 : decode cX13_count 54 = .ok (.ireturn, 1) := by decide +kernel
theorem dX13_count_55 : decode cX13_count 55 = .ok (.aload_n 0, 1) := by decide +kernel
theorem dX13_count_56 : decode cX13_count 56 = .ok (.iconst (-1), 1) := by decide +kernel
theorem dX13_count_57 : decode cX13_count 57 = .ok (.invokevirtual 428, 3) := by decide +kernel
theorem dX13_count_60 : decode cX13_count 60 = .ok (.ireturn, 1) := by decide +kernel
theorem dX13_count_61 : decode cX13_count 61 = .ok (.aload_n 0, 1) := by decide +kernel
theorem dX13_count_62 : decode cX13_count 62 = .ok (.getfield 7, 3) := by decide +kernel
theorem dX13_count_65 : decode cX13_count 65 = .ok (.iconst 1, 1) := by decide +kernel
theorem dX13_count_66 : decode cX13_count 66 = .ok (.iaload, 1) := by decide +kernel
theorem dX13_count_67 : decode cX13_count 67 = .ok (.ireturn, 1) := by decide +kernel
theorem dX13_count_68 : decode cX13_count 68 = .ok (.aload_n 0, 1) := by decide +kernel
theorem dX13_count_69 : decode cX13_count 69 = .ok (.getfield 7, 3) := by decide +kernel
theorem dX13_count_72 : decode cX13_count 72 = .ok (.iconst 2, 1) := by decide +kernel
theorem dX13_count_73 : decode cX13_count 73 = .ok (.iaload, 1) := by decide +kernel
theorem dX13_count_74 : decode cX13_count 74 = .ok (.ireturn, 1) := by decide +kernel
theorem dX13_count_75 : decode cX13_count 75 = .ok (.aload_n 0, 1) := by decide +kernel
theorem dX13_count_76 : decode cX13_count 76 = .ok (.getfield 57, 3) := by decide +kernel
theorem dX13_count_79 : decode cX13_count 79 = .ok (.ireturn, 1) := by decide +kernel
theorem dX13_count_80 : decode cX13_count 80 = .ok (.aload_n 0, 1) := by decide +kernel
theorem dX13_count_81 : decode cX13_count 81 = .ok (.getfield 307, 3) := by decide +kernel
theorem dX13_count_84 : decode cX13_count 84 = .ok (.ireturn, 1) := by decide +kernel
theorem dX13_count_85 : decode cX13_count 85 = .ok (.aload_n 0, 1) := by decide +kernel
theorem dX13_count_86 : decode cX13_count 86 = .ok (.getfield 7, 3) := by decide +kernel
theorem dX13_count_89 : decode cX13_count 89 = .ok (.iconst 3, 1) := by decide +kernel
theorem dX13_count_90 : decode cX13_count 90 = .ok (.iaload, 1) := by decide +kernel
theorem dX13_count_91 : decode cX13_count 91 = .ok (.ireturn, 1) := by decide +kernel
theorem dX13_count_92 : decode cX13_count 92 = .ok (.iload_n 1, 1) := by decide +kernel
theorem dX13_count_93 : decode cX13_count 93 = .ok (.bipush 10, 2) := by decide +kernel
theorem dX13_count_95 : decode cX13_count 95 = .ok (.bipush 14, 2) := by decide +kernel
theorem dX13_count_97 : decode cX13_count 97 = .ok (.invokestatic 68, 3) := by decide +kernel
theorem dX13_count_100 : decode cX13_count 100 = .ok (.ifCond .eq 14, 3) := by decide +kernel
theorem dX13_count_103 : decode cX13_count 103 = .ok (.aload_n 0, 1) := by decide +kernel
theorem dX13_count_104 : decode cX13_count 104 = .ok (.iload_n 1, 1) := by decide +kernel
theorem dX13_count_105 : decode cX13_count 105 = .ok (.bipush 10, 2) := by decide +kernel
theorem dX13_count_107 : decode cX13_count 107 = .ok (.isub, 1) := by decide +kernel
theorem dX13_count_108 : decode cX13_count 108 = .ok (.invokevirtual 428, 3) := by decide +kernel
theorem dX13_count_111 : decode cX13_count 111 = .ok (.goto 8, 3) := by decide +kernel
theorem dX13_count_114 : decode cX13_count 114 = .ok (.aload_n 0, 1) := by decide +kernel
theorem dX13_count_115 : decode cX13_count 115 = .ok (.iconst 1, 1) := by decide +kernel
theorem dX13_count_116 : decode cX13_count 116 = .ok (.invokevirtual 289, 3) := by decide +kernel
theorem dX13_count_119 : decode cX13_count 119 = .ok (.ireturn, 1) := by decide +kernel
