theorem dX1_ofDouble_0 : decode cX1_ofDouble 0 = .ok (.dload_n 0, 1) := by decide +kernel
theorem dX1_ofDouble_1 : decode cX1_ofDouble 1 = .ok (.dconst 0, 1) := by decide +kernel
theorem dX1_ofDouble_2 : decode cX1_ofDouble 2 = .ok (.dcmp .l, 1) := by decide +kernel
theorem dX1_ofDouble_3 : decode cX1_ofDouble 3 = .ok (.ifCond .gt 5, 3) := by decide +kernel
theorem dX1_ofDouble_6 : decode cX1_ofDouble 6 = .ok (.lconst 0, 1) := by decide +kernel
theorem dX1_ofDouble_7 : decode cX1_ofDouble 7 = .ok (.lreturn, 1) := by decide +kernel
theorem dX1_ofDouble_8 : decode cX1_ofDouble 8 = .ok (.ldc2_w 7, 3) := by decide +kernel
theorem dX1_ofDouble_11 : decode cX1_ofDouble 11 = .ok (.lstore_n 2, 1) := by decide +kernel
theorem dX1_ofDouble_12 : decode cX1_ofDouble 12 = .ok (.dload_n 0, 1) := by decide +kernel
theorem dX1_ofDouble_13 : decode cX1_ofDouble 13 = .ok (.dstore 4, 2) := by decide +kernel
theorem dX1_ofDouble_15 : decode cX1_ofDouble 15 = .ok (.dload 4, 2) := by decide +kernel
theorem dX1_ofDouble_17 : decode cX1_ofDouble 17 = .ok (.dconst 1, 1) := by decide +kernel
theorem dX1_ofDouble_18 : decode cX1_ofDouble 18 = .ok (.dcmp .g, 1) := by decide +kernel
theorem dX1_ofDouble_19 : decode cX1_ofDouble 19 = .ok (.ifCond .ge 24, 3) := by decide +kernel
theorem dX1_ofDouble_22 : decode cX1_ofDouble 22 = .ok (.lload_n 2, 1) := by decide +kernel
theorem dX1_ofDouble_23 : decode cX1_ofDouble 23 = .ok (.lconst 1, 1) := by decide +kernel
theorem dX1_ofDouble_24 : decode cX1_ofDouble 24 = .ok (.lcmp, 1) := by decide +kernel
theorem dX1_ofDouble_25 : decode cX1_ofDouble 25 = .ok (.ifCond .le 18, 3) := by decide +kernel
theorem dX1_ofDouble_28 : decode cX1_ofDouble 28 = .ok (.dload 4, 2) := by decide +kernel
theorem dX1_ofDouble_30 : decode cX1_ofDouble 30 = .ok (.ldc2_w 9, 3) := by decide +kernel
theorem dX1_ofDouble_33 : decode cX1_ofDouble 33 = .ok (.dmul, 1) := by decide +kernel
theorem dX1_ofDouble_34 : decode cX1_ofDouble 34 = .ok (.dstore 4, 2) := by decide +kernel
theorem dX1_ofDouble_36 : decode cX1_ofDouble 36 = .ok (.lload_n 2, 1) := by decide +kernel
theorem dX1_ofDouble_37 : decode cX1_ofDouble 37 = .ok (.lconst 1, 1) := by decide +kernel
theorem dX1_ofDouble_38 : decode cX1_ofDouble 38 = .ok (.lsub, 1) := by decide +kernel
theorem dX1_ofDouble_39 : decode cX1_ofDouble 39 = .ok (.lstore_n 2, 1) := by decide +kernel
theorem dX1_ofDouble_40 : decode cX1_ofDouble 40 = .ok (.goto (-25), 3) := by decide +kernel
theorem dX1_ofDouble_43 : decode cX1_ofDouble 43 = .ok (.lload_n 2, 1) := by decide +kernel
theorem dX1_ofDouble_44 : decode cX1_ofDouble 44 = .ok (.bipush 52, 2) := by decide +kernel
theorem dX1_ofDouble_46 : decode cX1_ofDouble 46 = .ok (.lshl, 1) := by decide +kernel
theorem dX1_ofDouble_47 : decode cX1_ofDouble 47 = .ok (.dload 4, 2) := by decide +kernel
theorem dX1_ofDouble_49 : decode cX1_ofDouble 49 = .ok (.dconst 1, 1) := by decide +kernel
theorem dX1_ofDouble_50 : decode cX1_ofDouble 50 = .ok (.dsub, 1) := by decide +kernel
theorem dX1_ofDouble_51 : decode cX1_ofDouble 51 = .ok (.ldc2_w 11, 3) := by decide +kernel
theorem dX1_ofDouble_54 : decode cX1_ofDouble 54 = .ok (.dmul, 1) := by decide +kernel
theorem dX1_ofDouble_55 : decode cX1_ofDouble 55 = .ok (.d2l, 1) := by decide +kernel
theorem dX1_ofDouble_56 : decode cX1_ofDouble 56 = .ok (.ladd, 1) := by decide +kernel
theorem dX1_ofDouble_57 : decode cX1_ofDouble 57 = .ok (.lreturn, 1) := by decide +kernel
theorem dX1_ofFloat_0 : decode cX1_ofFloat 0 = .ok (.fload_n 0, 1) := by decide +kernel
theorem dX1_ofFloat_1 : decode cX1_ofFloat 1 = .ok (.fconst 0, 1) := by decide +kernel
theorem dX1_ofFloat_2 : decode cX1_ofFloat 2 = .ok (.fcmp .l, 1) := by decide +kernel
theorem dX1_ofFloat_3 : decode cX1_ofFloat 3 = .ok (.ifCond .gt 5, 3) := by decide +kernel
theorem dX1_ofFloat_6 : decode cX1_ofFloat 6 = .ok (.iconst 0, 1) := by decide +kernel
theorem dX1_ofFloat_7 : decode cX1_ofFloat 7 = .ok (.ireturn, 1) := by decide +kernel
theorem dX1_ofFloat_8 : decode cX1_ofFloat 8 = .ok (.bipush 127, 2) := by decide +kernel
theorem dX1_ofFloat_10 : decode cX1_ofFloat 10 = .ok (.istore_n 1, 1) := by decide +kernel
theorem dX1_ofFloat_11 : decode cX1_ofFloat 11 = .ok (.fload_n 0, 1) := by decide +kernel
theorem dX1_ofFloat_12 : decode cX1_ofFloat 12 = .ok (.fstore_n 2, 1) := by decide +kernel
theorem dX1_ofFloat_13 : decode cX1_ofFloat 13 = .ok (.fload_n 2, 1) := by decide +kernel
theorem dX1_ofFloat_14 : decode cX1_ofFloat 14 = .ok (.fconst 1, 1) := by decide +kernel
theorem dX1_ofFloat_15 : decode cX1_ofFloat 15 = .ok (.fcmp .g, 1) := by decide +kernel
theorem dX1_ofFloat_16 : decode cX1_ofFloat 16 = .ok (.ifCond .ge 18, 3) := by decide +kernel
theorem dX1_ofFloat_19 : decode cX1_ofFloat 19 = .ok (.iload_n 1, 1) := by decide +kernel
theorem dX1_ofFloat_20 : decode cX1_ofFloat 20 = .ok (.iconst 1, 1) := by decide +kernel
theorem dX1_ofFloat_21 : decode cX1_ofFloat 21 = .ok (.if_icmp .le 13, 3) := by decide +kernel
theorem dX1_ofFloat_24 : decode cX1_ofFloat 24 = .ok (.fload_n 2, 1) := by decide +kernel
theorem dX1_ofFloat_25 : decode cX1_ofFloat 25 = .ok (.fconst 2, 1) := by decide +kernel
theorem dX1_ofFloat_26 : decode cX1_ofFloat 26 = .ok (.fmul, 1) := by decide +kernel
theorem dX1_ofFloat_27 : decode cX1_ofFloat 27 = .ok (.fstore_n 2, 1) := by decide +kernel
theorem dX1_ofFloat_28 : decode cX1_ofFloat 28 = .ok (.iinc 1 (-1), 3) := by decide +kernel
theorem dX1_ofFloat_31 : decode cX1_ofFloat 31 = .ok (.goto (-18), 3) := by decide +kernel
theorem dX1_ofFloat_34 : decode cX1_ofFloat 34 = .ok (.iload_n 1, 1) := by decide +kernel
theorem dX1_ofFloat_35 : decode cX1_ofFloat 35 = .ok (.bipush 23, 2) := by decide +kernel
theorem dX1_ofFloat_37 : decode cX1_ofFloat 37 = .ok (.ishl, 1) := by decide +kernel
theorem dX1_ofFloat_38 : decode cX1_ofFloat 38 = .ok (.fload_n 2, 1) := by decide +kernel
theorem dX1_ofFloat_39 : decode cX1_ofFloat 39 = .ok (.fconst 1, 1) := by decide +kernel
theorem dX1_ofFloat_40 : decode cX1_ofFloat 40 = .ok (.fsub, 1) := by decide +kernel
theorem dX1_ofFloat_41 : decode cX1_ofFloat 41 = .ok (.ldc 13, 2) := by decide +kernel
theorem dX1_ofFloat_43 : decode cX1_ofFloat 43 = .ok (.fmul, 1) := by decide +kernel
theorem dX1_ofFloat_44 : decode cX1_ofFloat 44 = .ok (.f2i, 1) := by decide +kernel
theorem dX1_ofFloat_45 : decode cX1_ofFloat 45 = .ok (.iadd, 1) := by decide +kernel
theorem dX1_ofFloat_46 : decode cX1_ofFloat 46 = .ok (.ireturn, 1) := by decide +kernel
theorem dX2_init_0 : decode cX2_init 0 = .ok (.aload_n 0, 1) := by decide +kernel
theorem dX2_init_1 : decode cX2_init 1 = .ok (.invokespecial 1, 3) := by decide +kernel
theorem dX2_init_4 : decode cX2_init 4 = .ok (.aload_n 0, 1) := by decide +kernel
theorem dX2_init_5 : decode cX2_init 5 = .ok (.bipush 33, 2) := by decide +kernel
theorem dX2_init_7 : decode cX2_init 7 = .ok (.newarray .double, 2) := by decide +kernel
theorem dX2_init_9 : decode cX2_init 9 = .ok (.putfield 7, 3) := by decide +kernel
theorem dX2_init_12 : decode cX2_init 12 = .ok (.return_, 1) := by decide +kernel
theorem dX2_ofAcceptance_0 : decode cX2_ofAcceptance 0 = .ok (.iconst 0, 1) := by decide +kernel
theorem dX2_ofAcceptance_1 : decode cX2_ofAcceptance 1 = .ok (.istore 5, 2) := by decide +kernel
theorem dX2_ofAcceptance_3 : decode cX2_ofAcceptance 3 = .ok (.iload 5, 2) := by decide +kernel
theorem dX2_ofAcceptance_5 : decode cX2_ofAcceptance 5 = .ok (.aload_n 0, 1) := by decide +kernel
theorem dX2_ofAcceptance_6 : decode cX2_ofAcceptance 6 = .ok (.getfield 7, 3) := by decide +kernel
theorem dX2_ofAcceptance_9 : decode cX2_ofAcceptance 9 = .ok (.arraylength, 1) := by decide +kernel
theorem dX2_ofAcceptance_10 : decode cX2_ofAcceptance 10 = .ok (.if_icmp .ge 26, 3) := by decide +kernel
theorem dX2_ofAcceptance_13 : decode cX2_ofAcceptance 13 = .ok (.aload_n 0, 1) := by decide +kernel
theorem dX2_ofAcceptance_14 : decode cX2_ofAcceptance 14 = .ok (.getfield 7, 3) := by decide +kernel
theorem dX2_ofAcceptance_17 : decode cX2_ofAcceptance 17 = .ok (.iload 5, 2) := by decide +kernel
theorem dX2_ofAcceptance_19 : decode cX2_ofAcceptance 19 = .ok (.iload 5, 2) := by decide +kernel
theorem dX2_ofAcceptance_21 : decode cX2_ofAcceptance 21 = .ok (.ifCond .ne 7, 3) := by decide +kernel
theorem dX2_ofAcceptance_24 : decode cX2_ofAcceptance 24 = .ok (.dconst 1, 1) := by decide +kernel
theorem dX2_ofAcceptance_25 : decode cX2_ofAcceptance 25 = .ok (.goto 4, 3) := by decide +kernel
theorem dX2_ofAcceptance_28 : decode cX2_ofAcceptance 28 = .ok (.dconst 0, 1) := by decide +kernel
theorem dX2_ofAcceptance_29 : decode cX2_ofAcceptance 29 = .ok (.dastore, 1) := by decide +kernel
theorem dX2_ofAcceptance_30 : decode cX2_ofAcceptance 30 = .ok (.iinc 5 1, 3) := by decide +kernel
theorem dX2_ofAcceptance_33 : decode cX2_ofAcceptance 33 = .ok (.goto (-30), 3) := by decide +kernel
theorem dX2_ofAcceptance_36 : decode cX2_ofAcceptance 36 = .ok (.iconst 0, 1) := by decide +kernel
theorem dX2_ofAcceptance_37 : decode cX2_ofAcceptance 37 = .ok (.istore 5, 2) := by decide +kernel
theorem dX2_ofAcceptance_39 : decode cX2_ofAcceptance 39 = .ok (.iload 5, 2) := by decide +kernel
theorem dX2_ofAcceptance_41 : decode cX2_ofAcceptance 41 = .ok (.iload_n 3, 1) := by decide +kernel
theorem dX2_ofAcceptance_42 : decode cX2_ofAcceptance 42 = .ok (.if_icmp .ge 35, 3) := by decide +kernel
theorem dX2_ofAcceptance_45 : decode cX2_ofAcceptance 45 = .ok (.iload 5, 2) := by decide +kernel
theorem dX2_ofAcceptance_47 : decode cX2_ofAcceptance 47 = .ok (.iload_n 1, 1) := by decide +kernel
theorem dX2_ofAcceptance_48 : decode cX2_ofAcceptance 48 = .ok (.if_icmp .ge 29, 3) := by decide +kernel
theorem dX2_ofAcceptance_51 : decode cX2_ofAcceptance 51 = .ok (.iload 5, 2) := by decide +kernel
theorem dX2_ofAcceptance_53 : decode cX2_ofAcceptance 53 = .ok (.aload_n 0, 1) := by decide +kernel
theorem dX2_ofAcceptance_54 : decode cX2_ofAcceptance 54 = .ok (.getfield 7, 3) := by decide +kernel
theorem dX2_ofAcceptance_57 : decode cX2_ofAcceptance 57 = .ok (.arraylength, 1) := by decide +kernel
theorem dX2_ofAcceptance_58 : decode cX2_ofAcceptance 58 = .ok (.iconst 1, 1) := by decide +kernel
theorem dX2_ofAcceptance_59 : decode cX2_ofAcceptance 59 = .ok (.isub, 1) := by decide +kernel
theorem dX2_ofAcceptance_60 : decode cX2_ofAcceptance 60 = .ok (.if_icmp .ge 17, 3) := by decide +kernel
theorem dX2_ofAcceptance_63 : decode cX2_ofAcceptance 63 = .ok (.aload_n 0, 1) := by decide +kernel
theorem dX2_ofAcceptance_64 : decode cX2_ofAcceptance 64 = .ok (.iload 5, 2) := by decide +kernel
theorem dX2_ofAcceptance_66 : decode cX2_ofAcceptance 66 = .ok (.iload_n 1, 1) := by decide +kernel
theorem dX2_ofAcceptance_67 : decode cX2_ofAcceptance 67 = .ok (.iload_n 2, 1) := by decide +kernel
theorem dX2_ofAcceptance_68 : decode cX2_ofAcceptance 68 = .ok (.invokevirtual 13, 3) := by decide +kernel
theorem dX2_ofAcceptance_71 : decode cX2_ofAcceptance 71 = .ok (.iinc 5 1, 3) := by decide +kernel
theorem dX2_ofAcceptance_74 : decode cX2_ofAcceptance 74 = .ok (.goto (-35), 3) := by decide +kernel
theorem dX2_ofAcceptance_77 : decode cX2_ofAcceptance 77 = .ok (.dconst 0, 1) := by decide +kernel
theorem dX2_ofAcceptance_78 : decode cX2_ofAcceptance 78 = .ok (.dstore 5, 2) := by decide +kernel
theorem dX2_ofAcceptance_80 : decode cX2_ofAcceptance 80 = .ok (.iconst 0, 1) := by decide +kernel
theorem dX2_ofAcceptance_81 : decode cX2_ofAcceptance 81 = .ok (.istore 7, 2) := by decide +kernel
theorem dX2_ofAcceptance_83 : decode cX2_ofAcceptance 83 = .ok (.iload 7, 2) := by decide +kernel
theorem dX2_ofAcceptance_85 : decode cX2_ofAcceptance 85 = .ok (.iload 4, 2) := by decide +kernel
theorem dX2_ofAcceptance_87 : decode cX2_ofAcceptance 87 = .ok (.if_icmp .gt 37, 3) := by decide +kernel
theorem dX2_ofAcceptance_90 : decode cX2_ofAcceptance 90 = .ok (.iload 7, 2) := by decide +kernel
theorem dX2_ofAcceptance_92 : decode cX2_ofAcceptance 92 = .ok (.iload_n 3, 1) := by decide +kernel
theorem dX2_ofAcceptance_93 : decode cX2_ofAcceptance 93 = .ok (.if_icmp .gt 31, 3) := by decide +kernel
theorem dX2_ofAcceptance_96 : decode cX2_ofAcceptance 96 = .ok (.iload 7, 2) := by decide +kernel
theorem dX2_ofAcceptance_98 : decode cX2_ofAcceptance 98 = .ok (.aload_n 0, 1) := by decide +kernel
theorem dX2_ofAcceptance_99 : decode cX2_ofAcceptance 99 = .ok (.getfield 7, 3) := by decide +kernel
theorem dX2_ofAcceptance_102 : decode cX2_ofAcceptance 102 = .ok (.arraylength, 1) := by decide +kernel
theorem dX2_ofAcceptance_103 : decode cX2_ofAcceptance 103 = .ok (.if_icmp .ge 21, 3) := by decide +kernel
theorem dX2_ofAcceptance_106 : decode cX2_ofAcceptance 106 = .ok (.dload 5, 2) := by decide +kernel
theorem dX2_ofAcceptance_108 : decode cX2_ofAcceptance 108 = .ok (.aload_n 0, 1) := by decide +kernel
theorem dX2_ofAcceptance_109 : decode cX2_ofAcceptance 109 = .ok (.getfield 7, 3) := by decide +kernel
theorem dX2_ofAcceptance_112 : decode cX2_ofAcceptance 112 = .ok (.iload 7, 2) := by decide +kernel
theorem dX2_ofAcceptance_114 : decode cX2_ofAcceptance 114 = .ok (.daload, 1) := by decide +kernel
theorem dX2_ofAcceptance_115 : decode cX2_ofAcceptance 115 = .ok (.dadd, 1) := by decide +kernel
theorem dX2_ofAcceptance_116 : decode cX2_ofAcceptance 116 = .ok (.dstore 5, 2) := by decide +kernel
theorem dX2_ofAcceptance_118 : decode cX2_ofAcceptance 118 = .ok (.iinc 7 1, 3) := by decide +kernel
theorem dX2_ofAcceptance_121 : decode cX2_ofAcceptance 121 = .ok (.goto (-38), 3) := by decide +kernel
theorem dX2_ofAcceptance_124 : decode cX2_ofAcceptance 124 = .ok (.dload 5, 2) := by decide +kernel
theorem dX2_ofAcceptance_126 : decode cX2_ofAcceptance 126 = .ok (.dreturn, 1) := by decide +kernel
theorem dX2_drawOneMore_0 : decode cX2_drawOneMore 0 = .ok (.iload_n 2, 1) := by decide +kernel
theorem dX2_drawOneMore_1 : decode cX2_drawOneMore 1 = .ok (.iload_n 1, 1) := by decide +kernel
theorem dX2_drawOneMore_2 : decode cX2_drawOneMore 2 = .ok (.isub, 1) := by decide +kernel
theorem dX2_drawOneMore_3 : decode cX2_drawOneMore 3 = .ok (.i2d, 1) := by decide +kernel
theorem dX2_drawOneMore_4 : decode cX2_drawOneMore 4 = .ok (.dstore 4, 2) := by decide +kernel
theorem dX2_drawOneMore_6 : decode cX2_drawOneMore 6 = .ok (.iload_n 1, 1) := by decide +kernel
theorem dX2_drawOneMore_7 : decode cX2_drawOneMore 7 = .ok (.iconst 1, 1) := by decide +kernel
theorem dX2_drawOneMore_8 : decode cX2_drawOneMore 8 = .ok (.iadd, 1) := by decide +kernel
theorem dX2_drawOneMore_9 : decode cX2_drawOneMore 9 = .ok (.aload_n 0, 1) := by decide +kernel
theorem dX2_drawOneMore_10 : decode cX2_drawOneMore 10 = .ok (.getfield 7, 3) := by decide +kernel
theorem dX2_drawOneMore_13 : decode cX2_drawOneMore 13 = .ok (.arraylength, 1) := by decide +kernel
theorem dX2_drawOneMore_14 : decode cX2_drawOneMore 14 = .ok (.iconst 1, 1) := by decide +kernel
theorem dX2_drawOneMore_15 : decode cX2_drawOneMore 15 = .ok (.isub, 1) := by decide +kernel
theorem dX2_drawOneMore_16 : decode cX2_drawOneMore 16 = .ok (.invokestatic 17, 3) := by decide +kernel
theorem dX2_drawOneMore_19 : decode cX2_drawOneMore 19 = .ok (.istore 6, 2) := by decide +kernel
theorem dX2_drawOneMore_21 : decode cX2_drawOneMore 21 = .ok (.iload 6, 2) := by decide +kernel
theorem dX2_drawOneMore_23 : decode cX2_drawOneMore 23 = .ok (.ifCond .lt 86, 3) := by decide +kernel
theorem dX2_drawOneMore_26 : decode cX2_drawOneMore 26 = .ok (.iload_n 2, 1) := by decide +kernel
theorem dX2_drawOneMore_27 : decode cX2_drawOneMore 27 = .ok (.iload_n 3, 1) := by decide +kernel
theorem dX2_drawOneMore_28 : decode cX2_drawOneMore 28 = .ok (.isub, 1) := by decide +kernel
theorem dX2_drawOneMore_29 : decode cX2_drawOneMore 29 = .ok (.iload_n 1, 1) := by decide +kernel
theorem dX2_drawOneMore_30 : decode cX2_drawOneMore 30 = .ok (.iload 6, 2) := by decide +kernel
theorem dX2_drawOneMore_32 : decode cX2_drawOneMore 32 = .ok (.isub, 1) := by decide +kernel
theorem dX2_drawOneMore_33 : decode cX2_drawOneMore 33 = .ok (.isub, 1) := by decide +kernel
theorem dX2_drawOneMore_34 : decode cX2_drawOneMore 34 = .ok (.iconst 0, 1) := by decide +kernel
theorem dX2_drawOneMore_35 : decode cX2_drawOneMore 35 = .ok (.invokestatic 23, 3) := by decide +kernel
theorem dX2_drawOneMore_38 : decode cX2_drawOneMore 38 = .ok (.i2d, 1) := by decide +kernel
theorem dX2_drawOneMore_39 : decode cX2_drawOneMore 39 = .ok (.dstore 7, 2) := by decide +kernel
theorem dX2_drawOneMore_41 : decode cX2_drawOneMore 41 = .ok (.iload_n 3, 1) := by decide +kernel
theorem dX2_drawOneMore_42 : decode cX2_drawOneMore 42 = .ok (.iload 6, 2) := by decide +kernel
theorem dX2_drawOneMore_44 : decode cX2_drawOneMore 44 = .ok (.iconst 1, 1) := by decide +kernel
theorem dX2_drawOneMore_45 : decode cX2_drawOneMore 45 = .ok (.isub, 1) := by decide +kernel
theorem dX2_drawOneMore_46 : decode cX2_drawOneMore 46 = .ok (.isub, 1) := by decide +kernel
theorem dX2_drawOneMore_47 : decode cX2_drawOneMore 47 = .ok (.iconst 0, 1) := by decide +kernel
theorem dX2_drawOneMore_48 : decode cX2_drawOneMore 48 = .ok (.invokestatic 23, 3) := by decide +kernel
theorem dX2_drawOneMore_51 : decode cX2_drawOneMore 51 = .ok (.i2d, 1) := by decide +kernel
theorem dX2_drawOneMore_52 : decode cX2_drawOneMore 52 = .ok (.dstore 9, 2) := by decide +kernel
theorem dX2_drawOneMore_54 : decode cX2_drawOneMore 54 = .ok (.iload 6, 2) := by decide +kernel
theorem dX2_drawOneMore_56 : decode cX2_drawOneMore 56 = .ok (.ifCond .ne 7, 3) := by decide +kernel
theorem dX2_drawOneMore_59 : decode cX2_drawOneMore 59 = .ok (.dconst 0, 1) := by decide +kernel
theorem dX2_drawOneMore_60 : decode cX2_drawOneMore 60 = .ok (.goto 12, 3) := by decide +kernel
theorem dX2_drawOneMore_63 : decode cX2_drawOneMore 63 = .ok (.aload_n 0, 1) := by decide +kernel
theorem dX2_drawOneMore_64 : decode cX2_drawOneMore 64 = .ok (.getfield 7, 3) := by decide +kernel
theorem dX2_drawOneMore_67 : decode cX2_drawOneMore 67 = .ok (.iload 6, 2) := by decide +kernel
theorem dX2_drawOneMore_69 : decode cX2_drawOneMore 69 = .ok (.iconst 1, 1) := by decide +kernel
theorem dX2_drawOneMore_70 : decode cX2_drawOneMore 70 = .ok (.isub, 1) := by decide +kernel
theorem dX2_drawOneMore_71 : decode cX2_drawOneMore 71 = .ok (.daload, 1) := by decide +kernel
theorem dX2_drawOneMore_72 : decode cX2_drawOneMore 72 = .ok (.dstore 11, 2) := by decide +kernel
theorem dX2_drawOneMore_74 : decode cX2_drawOneMore 74 = .ok (.aload_n 0, 1) := by decide +kernel
theorem dX2_drawOneMore_75 : decode cX2_drawOneMore 75 = .ok (.getfield 7, 3) := by decide +kernel
theorem dX2_drawOneMore_78 : decode cX2_drawOneMore 78 = .ok (.iload 6, 2) := by decide +kernel
theorem dX2_drawOneMore_80 : decode cX2_drawOneMore 80 = .ok (.aload_n 0, 1) := by decide +kernel
theorem dX2_drawOneMore_81 : decode cX2_drawOneMore 81 = .ok (.getfield 7, 3) := by decide +kernel
theorem dX2_drawOneMore_84 : decode cX2_drawOneMore 84 = .ok (.iload 6, 2) := by decide +kernel
theorem dX2_drawOneMore_86 : decode cX2_drawOneMore 86 = .ok (.daload, 1) := by decide +kernel
theorem dX2_drawOneMore_87 : decode cX2_drawOneMore 87 = .ok (.dload 7, 2) := by decide +kernel
theorem dX2_drawOneMore_89 : decode cX2_drawOneMore 89 = .ok (.dmul, 1) := by decide +kernel
theorem dX2_drawOneMore_90 : decode cX2_drawOneMore 90 = .ok (.dload 4, 2) := by decide +kernel
theorem dX2_drawOneMore_92 : decode cX2_drawOneMore 92 = .ok (.ddiv, 1) := by decide +kernel
theorem dX2_drawOneMore_93 : decode cX2_drawOneMore 93 = .ok (.dload 11, 2) := by decide +kernel
theorem dX2_drawOneMore_95 : decode cX2_drawOneMore 95 = .ok (.dload 9, 2) := by decide +kernel
theorem dX2_drawOneMore_97 : decode cX2_drawOneMore 97 = .ok (.dmul, 1) := by decide +kernel
theorem dX2_drawOneMore_98 : decode cX2_drawOneMore 98 = .ok (.dload 4, 2) := by decide +kernel
theorem dX2_drawOneMore_100 : decode cX2_drawOneMore 100 = .ok (.ddiv, 1) := by decide +kernel
theorem dX2_drawOneMore_101 : decode cX2_drawOneMore 101 = .ok (.dadd, 1) := by decide +kernel
theorem dX2_drawOneMore_102 : decode cX2_drawOneMore 102 = .ok (.dastore, 1) := by decide +kernel
theorem dX2_drawOneMore_103 : decode cX2_drawOneMore 103 = .ok (.iinc 6 (-1), 3) := by decide +kernel
theorem dX2_drawOneMore_106 : decode cX2_drawOneMore 106 = .ok (.goto (-85), 3) := by decide +kernel
theorem dX2_drawOneMore_109 : decode cX2_drawOneMore 109 = .ok (.return_, 1) := by decide +kernel
theorem dX3_init_0 : decode cX3_init 0 = .ok (.aload_n 0, 1) := by decide +kernel
theorem dX3_init_1 : decode cX3_init 1 = .ok (.invokespecial 1, 3) := by decide +kernel
theorem dX3_init_4 : decode cX3_init 4 = .ok (.aload_n 0, 1) := by decide +kernel
theorem dX3_init_5 : decode cX3_init 5 = .ok (.bipush 60, 2) := by decide +kernel
theorem dX3_init_7 : decode cX3_init 7 = .ok (.newarray .char, 2) := by decide +kernel
theorem dX3_init_9 : decode cX3_init 9 = .ok (.putfield 9, 3) := by decide +kernel
theorem dX3_init_12 : decode cX3_init 12 = .ok (.aload_n 0, 1) := by decide +kernel
theorem dX3_init_13 : decode cX3_init 13 = .ok (.iconst (-1), 1) := by decide +kernel
theorem dX3_init_14 : decode cX3_init 14 = .ok (.putfield 13, 3) := by decide +kernel
theorem dX3_init_17 : decode cX3_init 17 = .ok (.aload_n 0, 1) := by decide +kernel
theorem dX3_init_18 : decode cX3_init 18 = .ok (.bipush 6, 2) := by decide +kernel
theorem dX3_init_20 : decode cX3_init 20 = .ok (.newarray .int, 2) := by decide +kernel
theorem dX3_init_22 : decode cX3_init 22 = .ok (.putfield 17, 3) := by decide +kernel
theorem dX3_init_25 : decode cX3_init 25 = .ok (.return_, 1) := by decide +kernel
theorem dX3_charactersIn_0 : decode cX3_charactersIn 0 = .ok (.iconst 0, 1) := by decide +kernel
theorem dX3_charactersIn_1 : decode cX3_charactersIn 1 = .ok (.istore_n 1, 1) := by decide +kernel
theorem dX3_charactersIn_2 : decode cX3_charactersIn 2 = .ok (.bipush 24, 2) := by decide +kernel
theorem dX3_charactersIn_4 : decode cX3_charactersIn 4 = .ok (.istore_n 2, 1) := by decide +kernel
theorem dX3_charactersIn_5 : decode cX3_charactersIn 5 = .ok (.iload_n 2, 1) := by decide +kernel
theorem dX3_charactersIn_6 : decode cX3_charactersIn 6 = .ok (.ifCond .lt 42, 3) := by decide +kernel
theorem dX3_charactersIn_9 : decode cX3_charactersIn 9 = .ok (.iload_n 0, 1) := by decide +kernel
theorem dX3_charactersIn_10 : decode cX3_charactersIn 10 = .ok (.iload_n 2, 1) := by decide +kernel
theorem dX3_charactersIn_11 : decode cX3_charactersIn 11 = .ok (.iushr, 1) := by decide +kernel
theorem dX3_charactersIn_12 : decode cX3_charactersIn 12 = .ok (.sipush 255, 3) := by decide +kernel
theorem dX3_charactersIn_15 : decode cX3_charactersIn 15 = .ok (.iand, 1) := by decide +kernel
theorem dX3_charactersIn_16 : decode cX3_charactersIn 16 = .ok (.istore_n 3, 1) := by decide +kernel
theorem dX3_charactersIn_17 : decode cX3_charactersIn 17 = .ok (.iload_n 3, 1) := by decide +kernel
theorem dX3_charactersIn_18 : decode cX3_charactersIn 18 = .ok (.ifCond .eq 17, 3) := by decide +kernel
theorem dX3_charactersIn_21 : decode cX3_charactersIn 21 = .ok (.iload_n 3, 1) := by decide +kernel
theorem dX3_charactersIn_22 : decode cX3_charactersIn 22 = .ok (.bipush 33, 2) := by decide +kernel
theorem dX3_charactersIn_24 : decode cX3_charactersIn 24 = .ok (.if_icmp .lt 9, 3) := by decide +kernel
theorem dX3_charactersIn_27 : decode cX3_charactersIn 27 = .ok (.iload_n 3, 1) := by decide +kernel
theorem dX3_charactersIn_28 : decode cX3_charactersIn 28 = .ok (.bipush 126, 2) := by decide +kernel
theorem dX3_charactersIn_30 : decode cX3_charactersIn 30 = .ok (.if_icmp .le 5, 3) := by decide +kernel
theorem dX3_charactersIn_33 : decode cX3_charactersIn 33 = .ok (.iconst (-1), 1) := by decide +kernel
theorem dX3_charactersIn_34 : decode cX3_charactersIn 34 = .ok (.ireturn, 1) := by decide +kernel
theorem dX3_charactersIn_35 : decode cX3_charactersIn 35 = .ok (.iload_n 3, 1) := by decide +kernel
theorem dX3_charactersIn_36 : decode cX3_charactersIn 36 = .ok (.ifCond .eq 6, 3) := by decide +kernel
theorem dX3_charactersIn_39 : decode cX3_charactersIn 39 = .ok (.iinc 1 1, 3) := by decide +kernel
theorem dX3_charactersIn_42 : decode cX3_charactersIn 42 = .ok (.iinc 2 (-8), 3) := by decide +kernel
theorem dX3_charactersIn_45 : decode cX3_charactersIn 45 = .ok (.goto (-40), 3) := by decide +kernel
theorem dX3_charactersIn_48 : decode cX3_charactersIn 48 = .ok (.iload_n 1, 1) := by decide +kernel
theorem dX3_charactersIn_49 : decode cX3_charactersIn 49 = .ok (.ireturn, 1) := by decide +kernel
theorem dX3_hasRoomFor_0 : decode cX3_hasRoomFor 0 = .ok (.aload_n 0, 1) := by decide +kernel
theorem dX3_hasRoomFor_1 : decode cX3_hasRoomFor 1 = .ok (.getfield 21, 3) := by decide +kernel
theorem dX3_hasRoomFor_4 : decode cX3_hasRoomFor 4 = .ok (.iload_n 1, 1) := by decide +kernel
theorem dX3_hasRoomFor_5 : decode cX3_hasRoomFor 5 = .ok (.iadd, 1) := by decide +kernel
theorem dX3_hasRoomFor_6 : decode cX3_hasRoomFor 6 = .ok (.aload_n 0, 1) := by decide +kernel
theorem dX3_hasRoomFor_7 : decode cX3_hasRoomFor 7 = .ok (.getfield 9, 3) := by decide +kernel
theorem dX3_hasRoomFor_10 : decode cX3_hasRoomFor 10 = .ok (.arraylength, 1) := by decide +kernel
theorem dX3_hasRoomFor_11 : decode cX3_hasRoomFor 11 = .ok (.if_icmp .gt 7, 3) := by decide +kernel
theorem dX3_hasRoomFor_14 : decode cX3_hasRoomFor 14 = .ok (.iconst 1, 1) := by decide +kernel
theorem dX3_hasRoomFor_15 : decode cX3_hasRoomFor 15 = .ok (.goto 4, 3) := by decide +kernel
theorem dX3_hasRoomFor_18 : decode cX3_hasRoomFor 18 = .ok (.iconst 0, 1) := by decide +kernel
theorem dX3_hasRoomFor_19 : decode cX3_hasRoomFor 19 = .ok (.ireturn, 1) := by decide +kernel
theorem dX3_add_0 : decode cX3_add 0 = .ok (.bipush 24, 2) := by decide +kernel
theorem dX3_add_2 : decode cX3_add 2 = .ok (.istore_n 2, 1) := by decide +kernel
theorem dX3_add_3 : decode cX3_add 3 = .ok (.iload_n 2, 1) := by decide +kernel
theorem dX3_add_4 : decode cX3_add 4 = .ok (.ifCond .lt 54, 3) := by decide +kernel
theorem dX3_add_7 : decode cX3_add 7 = .ok (.iload_n 1, 1) := by decide +kernel
theorem dX3_add_8 : decode cX3_add 8 = .ok (.iload_n 2, 1) := by decide +kernel
theorem dX3_add_9 : decode cX3_add 9 = .ok (.iushr, 1) := by decide +kernel
theorem dX3_add_10 : decode cX3_add 10 = .ok (.sipush 255, 3) := by decide +kernel
theorem dX3_add_13 : decode cX3_add 13 = .ok (.iand, 1) := by decide +kernel
theorem dX3_add_14 : decode cX3_add 14 = .ok (.istore_n 3, 1) := by decide +kernel
theorem dX3_add_15 : decode cX3_add 15 = .ok (.iload_n 3, 1) := by decide +kernel
theorem dX3_add_16 : decode cX3_add 16 = .ok (.ifCond .eq 36, 3) := by decide +kernel
theorem dX3_add_19 : decode cX3_add 19 = .ok (.aload_n 0, 1) := by decide +kernel
theorem dX3_add_20 : decode cX3_add 20 = .ok (.getfield 21, 3) := by decide +kernel
theorem dX3_add_23 : decode cX3_add 23 = .ok (.aload_n 0, 1) := by decide +kernel
theorem dX3_add_24 : decode cX3_add 24 = .ok (.getfield 9, 3) := by decide +kernel
theorem dX3_add_27 : decode cX3_add 27 = .ok (.arraylength, 1) := by decide +kernel
theorem dX3_add_28 : decode cX3_add 28 = .ok (.if_icmp .ge 24, 3) := by decide +kernel
theorem dX3_add_31 : decode cX3_add 31 = .ok (.aload_n 0, 1) := by decide +kernel
theorem dX3_add_32 : decode cX3_add 32 = .ok (.getfield 9, 3) := by decide +kernel
theorem dX3_add_35 : decode cX3_add 35 = .ok (.aload_n 0, 1) := by decide +kernel
theorem dX3_add_36 : decode cX3_add 36 = .ok (.getfield 21, 3) := by decide +kernel
theorem dX3_add_39 : decode cX3_add 39 = .ok (.iload_n 3, 1) := by decide +kernel
theorem dX3_add_40 : decode cX3_add 40 = .ok (.i2c, 1) := by decide +kernel
theorem dX3_add_41 : decode cX3_add 41 = .ok (.castore, 1) := by decide +kernel
theorem dX3_add_42 : decode cX3_add 42 = .ok (.aload_n 0, 1) := by decide +kernel
theorem dX3_add_43 : decode cX3_add 43 = .ok (.dup, 1) := by decide +kernel
theorem dX3_add_44 : decode cX3_add 44 = .ok (.getfield 21, 3) := by decide +kernel
theorem dX3_add_47 : decode cX3_add 47 = .ok (.iconst 1, 1) := by decide +kernel
theorem dX3_add_48 : decode cX3_add 48 = .ok (.iadd, 1) := by decide +kernel
theorem dX3_add_49 : decode cX3_add 49 = .ok (.putfield 21, 3) := by decide +kernel
theorem dX3_add_52 : decode cX3_add 52 = .ok (.iinc 2 (-8), 3) := by decide +kernel
theorem dX3_add_55 : decode cX3_add 55 = .ok (.goto (-52), 3) := by decide +kernel
theorem dX3_add_58 : decode cX3_add 58 = .ok (.return_, 1) := by decide +kernel
theorem dX3_empty_0 : decode cX3_empty 0 = .ok (.aload_n 0, 1) := by decide +kernel
theorem dX3_empty_1 : decode cX3_empty 1 = .ok (.iconst 0, 1) := by decide +kernel
theorem dX3_empty_2 : decode cX3_empty 2 = .ok (.putfield 21, 3) := by decide +kernel
theorem dX3_empty_5 : decode cX3_empty 5 = .ok (.return_, 1) := by decide +kernel
theorem dX3_rewind_0 : decode cX3_rewind 0 = .ok (.aload_n 0, 1) := by decide +kernel
theorem dX3_rewind_1 : decode cX3_rewind 1 = .ok (.iconst 0, 1) := by decide +kernel
theorem dX3_rewind_2 : decode cX3_rewind 2 = .ok (.putfield 24, 3) := by decide +kernel
theorem dX3_rewind_5 : decode cX3_rewind 5 = .ok (.return_, 1) := by decide +kernel
theorem dX3_isText_0 : decode cX3_isText 0 = .ok (.aload_n 0, 1) := by decide +kernel
theorem dX3_isText_1 : decode cX3_isText 1 = .ok (.invokevirtual 27, 3) := by decide +kernel
theorem dX3_isText_4 : decode cX3_isText 4 = .ok (.aload_n 0, 1) := by decide +kernel
theorem dX3_isText_5 : decode cX3_isText 5 = .ok (.getfield 21, 3) := by decide +kernel
theorem dX3_isText_8 : decode cX3_isText 8 = .ok (.ifCond .le 7, 3) := by decide +kernel
theorem dX3_isText_11 : decode cX3_isText 11 = .ok (.iconst 1, 1) := by decide +kernel
theorem dX3_isText_12 : decode cX3_isText 12 = .ok (.goto 4, 3) := by decide +kernel
theorem dX3_isText_15 : decode cX3_isText 15 = .ok (.iconst 0, 1) := by decide +kernel
theorem dX3_isText_16 : decode cX3_isText 16 = .ok (.istore_n 1, 1) := by decide +kernel
theorem dX3_isText_17 : decode cX3_isText 17 = .ok (.iconst 0, 1) := by decide +kernel
theorem dX3_isText_18 : decode cX3_isText 18 = .ok (.istore_n 2, 1) := by decide +kernel
theorem dX3_isText_19 : decode cX3_isText 19 = .ok (.iload_n 2, 1) := by decide +kernel
theorem dX3_isText_20 : decode cX3_isText 20 = .ok (.bipush 60, 2) := by decide +kernel
theorem dX3_isText_22 : decode cX3_isText 22 = .ok (.if_icmp .ge 29, 3) := by decide +kernel
theorem dX3_isText_25 : decode cX3_isText 25 = .ok (.iload_n 1, 1) := by decide +kernel
theorem dX3_isText_26 : decode cX3_isText 26 = .ok (.ifCond .eq 25, 3) := by decide +kernel
theorem dX3_isText_29 : decode cX3_isText 29 = .ok (.aload_n 0, 1) := by decide +kernel
theorem dX3_isText_30 : decode cX3_isText 30 = .ok (.getfield 24, 3) := by decide +kernel
theorem dX3_isText_33 : decode cX3_isText 33 = .ok (.aload_n 0, 1) := by decide +kernel
theorem dX3_isText_34 : decode cX3_isText 34 = .ok (.getfield 21, 3) := by decide +kernel
theorem dX3_isText_37 : decode cX3_isText 37 = .ok (.if_icmp .ge 14, 3) := by decide +kernel
theorem dX3_isText_40 : decode cX3_isText 40 = .ok (.aload_n 0, 1) := by decide +kernel
theorem dX3_isText_41 : decode cX3_isText 41 = .ok (.invokevirtual 30, 3) := by decide +kernel
theorem dX3_isText_44 : decode cX3_isText 44 = .ok (.istore_n 1, 1) := by decide +kernel
theorem dX3_isText_45 : decode cX3_isText 45 = .ok (.iinc 2 1, 3) := by decide +kernel
theorem dX3_isText_48 : decode cX3_isText 48 = .ok (.goto (-29), 3) := by decide +kernel
theorem dX3_isText_51 : decode cX3_isText 51 = .ok (.aload_n 0, 1) := by decide +kernel
theorem dX3_isText_52 : decode cX3_isText 52 = .ok (.iload_n 1, 1) := by decide +kernel
theorem dX3_isText_53 : decode cX3_isText 53 = .ok (.ifCond .eq 7, 3) := by decide +kernel
theorem dX3_isText_56 : decode cX3_isText 56 = .ok (.iconst (-1), 1) := by decide +kernel
theorem dX3_isText_57 : decode cX3_isText 57 = .ok (.goto 7, 3) := by decide +kernel
theorem dX3_isText_60 : decode cX3_isText 60 = .ok (.aload_n 0, 1) := by decide +kernel
theorem dX3_isText_61 : decode cX3_isText 61 = .ok (.getfield 24, 3) := by decide +kernel
theorem dX3_isText_64 : decode cX3_isText 64 = .ok (.putfield 13, 3) := by decide +kernel
theorem dX3_isText_67 : decode cX3_isText 67 = .ok (.iload_n 1, 1) := by decide +kernel
theorem dX3_isText_68 : decode cX3_isText 68 = .ok (.ireturn, 1) := by decide +kernel
theorem dX3_readCommand_0 : decode cX3_readCommand 0 = .ok (.aload_n 0, 1) := by decide +kernel
theorem dX3_readCommand_1 : decode cX3_readCommand 1 = .ok (.aload_n 0, 1) := by decide +kernel
theorem dX3_readCommand_2 : decode cX3_readCommand 2 = .ok (.getfield 24, 3) := by decide +kernel
theorem dX3_readCommand_5 : decode cX3_readCommand 5 = .ok (.putfield 34, 3) := by decide +kernel
theorem dX3_readCommand_8 : decode cX3_readCommand 8 = .ok (.aload_n 0, 1) := by decide +kernel
theorem dX3_readCommand_9 : decode cX3_readCommand 9 = .ok (.invokevirtual 37, 3) := by decide +kernel
theorem dX3_readCommand_12 : decode cX3_readCommand 12 = .ok (.aload_n 0, 1) := by decide +kernel
theorem dX3_readCommand_13 : decode cX3_readCommand 13 = .ok (.getfield 40, 3) := by decide +kernel
theorem dX3_readCommand_16 : decode cX3_readCommand 16 = .ok (.ifnull 12, 3) := by decide +kernel
theorem dX3_readCommand_19 : decode cX3_readCommand 19 = .ok (.aload_n 0, 1) := by decide +kernel
theorem dX3_readCommand_20 : decode cX3_readCommand 20 = .ok (.bipush 58, 2) := by decide +kernel
theorem dX3_readCommand_22 : decode cX3_readCommand 22 = .ok (.invokevirtual 44, 3) := by decide +kernel
theorem dX3_readCommand_25 : decode cX3_readCommand 25 = .ok (.ifCond .ne 5, 3) := by decide +kernel
theorem dX3_readCommand_28 : decode cX3_readCommand 28 = .ok (.iconst 0, 1) := by decide +kernel
theorem dX3_readCommand_29 : decode cX3_readCommand 29 = .ok (.ireturn, 1) := by decide +kernel
theorem dX3_readCommand_30 : decode cX3_readCommand 30 = .ok (.iconst 0, 1) := by decide +kernel
theorem dX3_readCommand_31 : decode cX3_readCommand 31 = .ok (.istore_n 1, 1) := by decide +kernel
theorem dX3_readCommand_32 : decode cX3_readCommand 32 = .ok (.iload_n 1, 1) := by decide +kernel
theorem dX3_readCommand_33 : decode cX3_readCommand 33 = .ok (.aload_n 0, 1) := by decide +kernel
theorem dX3_readCommand_34 : decode cX3_readCommand 34 = .ok (.getfield 40, 3) := by decide +kernel
theorem dX3_readCommand_37 : decode cX3_readCommand 37 = .ok (.getfield 48, 3) := by decide +kernel
theorem dX3_readCommand_40 : decode cX3_readCommand 40 = .ok (.if_icmp .ge 83, 3) := by decide +kernel
theorem dX3_readCommand_43 : decode cX3_readCommand 43 = .ok (.iload_n 1, 1) := by decide +kernel
theorem dX3_readCommand_44 : decode cX3_readCommand 44 = .ok (.aload_n 0, 1) := by decide +kernel
theorem dX3_readCommand_45 : decode cX3_readCommand 45 = .ok (.getfield 17, 3) := by decide +kernel
theorem dX3_readCommand_48 : decode cX3_readCommand 48 = .ok (.arraylength, 1) := by decide +kernel
theorem dX3_readCommand_49 : decode cX3_readCommand 49 = .ok (.if_icmp .ge 74, 3) := by decide +kernel
theorem dX3_readCommand_52 : decode cX3_readCommand 52 = .ok (.aload_n 0, 1) := by decide +kernel
theorem dX3_readCommand_53 : decode cX3_readCommand 53 = .ok (.iload_n 1, 1) := by decide +kernel
theorem dX3_readCommand_54 : decode cX3_readCommand 54 = .ok (.invokevirtual 53, 3) := by decide +kernel
theorem dX3_readCommand_57 : decode cX3_readCommand 57 = .ok (.ifCond .ne 5, 3) := by decide +kernel
theorem dX3_readCommand_60 : decode cX3_readCommand 60 = .ok (.iconst 0, 1) := by decide +kernel
theorem dX3_readCommand_61 : decode cX3_readCommand 61 = .ok (.ireturn, 1) := by decide +kernel
theorem dX3_readCommand_62 : decode cX3_readCommand 62 = .ok (.iload_n 1, 1) := by decide +kernel
theorem dX3_readCommand_63 : decode cX3_readCommand 63 = .ok (.iconst 1, 1) := by decide +kernel
theorem dX3_readCommand_64 : decode cX3_readCommand 64 = .ok (.iadd, 1) := by decide +kernel
theorem dX3_readCommand_65 : decode cX3_readCommand 65 = .ok (.aload_n 0, 1) := by decide +kernel
theorem dX3_readCommand_66 : decode cX3_readCommand 66 = .ok (.getfield 40, 3) := by decide +kernel
theorem dX3_readCommand_69 : decode cX3_readCommand 69 = .ok (.getfield 57, 3) := by decide +kernel
theorem dX3_readCommand_72 : decode cX3_readCommand 72 = .ok (.if_icmp .lt 21, 3) := by decide +kernel
theorem dX3_readCommand_75 : decode cX3_readCommand 75 = .ok (.aload_n 0, 1) := by decide +kernel
theorem dX3_readCommand_76 : decode cX3_readCommand 76 = .ok (.bipush 59, 2) := by decide +kernel
theorem dX3_readCommand_78 : decode cX3_readCommand 78 = .ok (.invokevirtual 44, 3) := by decide +kernel
theorem dX3_readCommand_81 : decode cX3_readCommand 81 = .ok (.ifCond .eq 12, 3) := by decide +kernel
theorem dX3_readCommand_84 : decode cX3_readCommand 84 = .ok (.aload_n 0, 1) := by decide +kernel
theorem dX3_readCommand_85 : decode cX3_readCommand 85 = .ok (.iload_n 1, 1) := by decide +kernel
theorem dX3_readCommand_86 : decode cX3_readCommand 86 = .ok (.iconst 1, 1) := by decide +kernel
theorem dX3_readCommand_87 : decode cX3_readCommand 87 = .ok (.iadd, 1) := by decide +kernel
theorem dX3_readCommand_88 : decode cX3_readCommand 88 = .ok (.invokevirtual 60, 3) := by decide +kernel
theorem dX3_readCommand_91 : decode cX3_readCommand 91 = .ok (.iconst 1, 1) := by decide +kernel
theorem dX3_readCommand_92 : decode cX3_readCommand 92 = .ok (.ireturn, 1) := by decide +kernel
theorem dX3_readCommand_93 : decode cX3_readCommand 93 = .ok (.iload_n 1, 1) := by decide +kernel
theorem dX3_readCommand_94 : decode cX3_readCommand 94 = .ok (.iconst 1, 1) := by decide +kernel
theorem dX3_readCommand_95 : decode cX3_readCommand 95 = .ok (.iadd, 1) := by decide +kernel
theorem dX3_readCommand_96 : decode cX3_readCommand 96 = .ok (.aload_n 0, 1) := by decide +kernel
theorem dX3_readCommand_97 : decode cX3_readCommand 97 = .ok (.getfield 40, 3) := by decide +kernel
theorem dX3_readCommand_100 : decode cX3_readCommand 100 = .ok (.getfield 48, 3) := by decide +kernel
theorem dX3_readCommand_103 : decode cX3_readCommand 103 = .ok (.if_icmp .eq 12, 3) := by decide +kernel
theorem dX3_readCommand_106 : decode cX3_readCommand 106 = .ok (.aload_n 0, 1) := by decide +kernel
theorem dX3_readCommand_107 : decode cX3_readCommand 107 = .ok (.bipush 44, 2) := by decide +kernel
theorem dX3_readCommand_109 : decode cX3_readCommand 109 = .ok (.invokevirtual 44, 3) := by decide +kernel
theorem dX3_readCommand_112 : decode cX3_readCommand 112 = .ok (.ifCond .ne 5, 3) := by decide +kernel
theorem dX3_readCommand_115 : decode cX3_readCommand 115 = .ok (.iconst 0, 1) := by decide +kernel
theorem dX3_readCommand_116 : decode cX3_readCommand 116 = .ok (.ireturn, 1) := by decide +kernel
theorem dX3_readCommand_117 : decode cX3_readCommand 117 = .ok (.iinc 1 1, 3) := by decide +kernel
theorem dX3_readCommand_120 : decode cX3_readCommand 120 = .ok (.goto (-88), 3) := by decide +kernel
theorem dX3_readCommand_123 : decode cX3_readCommand 123 = .ok (.iconst 0, 1) := by decide +kernel
theorem dX3_readCommand_124 : decode cX3_readCommand 124 = .ok (.ireturn, 1) := by decide +kernel
theorem dX3_readWord_0 : decode cX3_readWord 0 = .ok (.aload_n 0, 1) := by decide +kernel
theorem dX3_readWord_1 : decode cX3_readWord 1 = .ok (.getfield 24, 3) := by decide +kernel
theorem dX3_readWord_4 : decode cX3_readWord 4 = .ok (.istore_n 1, 1) := by decide +kernel
theorem dX3_readWord_5 : decode cX3_readWord 5 = .ok (.iload_n 1, 1) := by decide +kernel
theorem dX3_readWord_6 : decode cX3_readWord 6 = .ok (.aload_n 0, 1) := by decide +kernel
theorem dX3_readWord_7 : decode cX3_readWord 7 = .ok (.getfield 21, 3) := by decide +kernel
theorem dX3_readWord_10 : decode cX3_readWord 10 = .ok (.if_icmp .ge 29, 3) := by decide +kernel
theorem dX3_readWord_13 : decode cX3_readWord 13 = .ok (.aload_n 0, 1) := by decide +kernel
theorem dX3_readWord_14 : decode cX3_readWord 14 = .ok (.iload_n 1, 1) := by decide +kernel
theorem dX3_readWord_15 : decode cX3_readWord 15 = .ok (.invokevirtual 64, 3) := by decide +kernel
theorem dX3_readWord_18 : decode cX3_readWord 18 = .ok (.bipush 97, 2) := by decide +kernel
theorem dX3_readWord_20 : decode cX3_readWord 20 = .ok (.if_icmp .lt 19, 3) := by decide +kernel
theorem dX3_readWord_23 : decode cX3_readWord 23 = .ok (.aload_n 0, 1) := by decide +kernel
theorem dX3_readWord_24 : decode cX3_readWord 24 = .ok (.iload_n 1, 1) := by decide +kernel
theorem dX3_readWord_25 : decode cX3_readWord 25 = .ok (.invokevirtual 64, 3) := by decide +kernel
theorem dX3_readWord_28 : decode cX3_readWord 28 = .ok (.bipush 122, 2) := by decide +kernel
theorem dX3_readWord_30 : decode cX3_readWord 30 = .ok (.if_icmp .gt 9, 3) := by decide +kernel
theorem dX3_readWord_33 : decode cX3_readWord 33 = .ok (.iinc 1 1, 3) := by decide +kernel
theorem dX3_readWord_36 : decode cX3_readWord 36 = .ok (.goto (-31), 3) := by decide +kernel
theorem dX3_readWord_39 : decode cX3_readWord 39 = .ok (.aload_n 0, 1) := by decide +kernel
theorem dX3_readWord_40 : decode cX3_readWord 40 = .ok (.aconst_null, 1) := by decide +kernel
theorem dX3_readWord_41 : decode cX3_readWord 41 = .ok (.putfield 40, 3) := by decide +kernel
theorem dX3_readWord_44 : decode cX3_readWord 44 = .ok (.getstatic 68, 3) := by decide +kernel
theorem dX3_readWord_47 : decode cX3_readWord 47 = .ok (.astore_n 2, 1) := by decide +kernel
theorem dX3_readWord_48 : decode cX3_readWord 48 = .ok (.aload_n 2, 1) := by decide +kernel
theorem dX3_readWord_49 : decode cX3_readWord 49 = .ok (.arraylength, 1) := by decide +kernel
theorem dX3_readWord_50 : decode cX3_readWord 50 = .ok (.istore_n 3, 1) := by decide +kernel
theorem dX3_readWord_51 : decode cX3_readWord 51 = .ok (.iconst 0, 1) := by decide +kernel
theorem dX3_readWord_52 : decode cX3_readWord 52 = .ok (.istore 4, 2) := by decide +kernel
theorem dX3_readWord_54 : decode cX3_readWord 54 = .ok (.iload 4, 2) := by decide +kernel
theorem dX3_readWord_56 : decode cX3_readWord 56 = .ok (.iload_n 3, 1) := by decide +kernel
theorem dX3_readWord_57 : decode cX3_readWord 57 = .ok (.if_icmp .ge 34, 3) := by decide +kernel
theorem dX3_readWord_60 : decode cX3_readWord 60 = .ok (.aload_n 2, 1) := by decide +kernel
theorem dX3_readWord_61 : decode cX3_readWord 61 = .ok (.iload 4, 2) := by decide +kernel
theorem dX3_readWord_63 : decode cX3_readWord 63 = .ok (.aaload, 1) := by decide +kernel
theorem dX3_readWord_64 : decode cX3_readWord 64 = .ok (.astore 5, 2) := by decide +kernel
theorem dX3_readWord_66 : decode cX3_readWord 66 = .ok (.aload_n 0, 1) := by decide +kernel
theorem dX3_readWord_67 : decode cX3_readWord 67 = .ok (.aload 5, 2) := by decide +kernel
theorem dX3_readWord_69 : decode cX3_readWord 69 = .ok (.getfield 72, 3) := by decide +kernel
theorem dX3_readWord_72 : decode cX3_readWord 72 = .ok (.iload_n 1, 1) := by decide +kernel
theorem dX3_readWord_73 : decode cX3_readWord 73 = .ok (.invokevirtual 76, 3) := by decide +kernel
theorem dX3_readWord_76 : decode cX3_readWord 76 = .ok (.ifCond .eq 9, 3) := by decide +kernel
theorem dX3_readWord_79 : decode cX3_readWord 79 = .ok (.aload_n 0, 1) := by decide +kernel
theorem dX3_readWord_80 : decode cX3_readWord 80 = .ok (.aload 5, 2) := by decide +kernel
theorem dX3_readWord_82 : decode cX3_readWord 82 = .ok (.putfield 40, 3) := by decide +kernel
theorem dX3_readWord_85 : decode cX3_readWord 85 = .ok (.iinc 4 1, 3) := by decide +kernel
theorem dX3_readWord_88 : decode cX3_readWord 88 = .ok (.goto (-34), 3) := by decide +kernel
theorem dX3_readWord_91 : decode cX3_readWord 91 = .ok (.aload_n 0, 1) := by decide +kernel
theorem dX3_readWord_92 : decode cX3_readWord 92 = .ok (.getfield 40, 3) := by decide +kernel
theorem dX3_readWord_95 : decode cX3_readWord 95 = .ok (.ifnull 8, 3) := by decide +kernel
theorem dX3_readWord_98 : decode cX3_readWord 98 = .ok (.aload_n 0, 1) := by decide +kernel
theorem dX3_readWord_99 : decode cX3_readWord 99 = .ok (.iload_n 1, 1) := by decide +kernel
theorem dX3_readWord_100 : decode cX3_readWord 100 = .ok (.putfield 24, 3) := by decide +kernel
theorem dX3_readWord_103 : decode cX3_readWord 103 = .ok (.return_, 1) := by decide +kernel
theorem dX3_spells_0 : decode cX3_spells 0 = .ok (.iload_n 2, 1) := by decide +kernel
theorem dX3_spells_1 : decode cX3_spells 1 = .ok (.aload_n 0, 1) := by decide +kernel
theorem dX3_spells_2 : decode cX3_spells 2 = .ok (.getfield 24, 3) := by decide +kernel
theorem dX3_spells_5 : decode cX3_spells 5 = .ok (.isub, 1) := by decide +kernel
theorem dX3_spells_6 : decode cX3_spells 6 = .ok (.aload_n 1, 1) := by decide +kernel
theorem dX3_spells_7 : decode cX3_spells 7 = .ok (.invokevirtual 80, 3) := by decide +kernel
theorem dX3_spells_10 : decode cX3_spells 10 = .ok (.if_icmp .eq 5, 3) := by decide +kernel
theorem dX3_spells_13 : decode cX3_spells 13 = .ok (.iconst 0, 1) := by decide +kernel
theorem dX3_spells_14 : decode cX3_spells 14 = .ok (.ireturn, 1) := by decide +kernel
theorem dX3_spells_15 : decode cX3_spells 15 = .ok (.iconst 0, 1) := by decide +kernel
theorem dX3_spells_16 : decode cX3_spells 16 = .ok (.istore_n 3, 1) := by decide +kernel
theorem dX3_spells_17 : decode cX3_spells 17 = .ok (.iload_n 3, 1) := by decide +kernel
theorem dX3_spells_18 : decode cX3_spells 18 = .ok (.aload_n 1, 1) := by decide +kernel
theorem dX3_spells_19 : decode cX3_spells 19 = .ok (.invokevirtual 80, 3) := by decide +kernel
theorem dX3_spells_22 : decode cX3_spells 22 = .ok (.if_icmp .ge 29, 3) := by decide +kernel
theorem dX3_spells_25 : decode cX3_spells 25 = .ok (.aload_n 1, 1) := by decide +kernel
theorem dX3_spells_26 : decode cX3_spells 26 = .ok (.iload_n 3, 1) := by decide +kernel
theorem dX3_spells_27 : decode cX3_spells 27 = .ok (.invokevirtual 85, 3) := by decide +kernel
theorem dX3_spells_30 : decode cX3_spells 30 = .ok (.aload_n 0, 1) := by decide +kernel
theorem dX3_spells_31 : decode cX3_spells 31 = .ok (.aload_n 0, 1) := by decide +kernel
theorem dX3_spells_32 : decode cX3_spells 32 = .ok (.getfield 24, 3) := by decide +kernel
theorem dX3_spells_35 : decode cX3_spells 35 = .ok (.iload_n 3, 1) := by decide +kernel
theorem dX3_spells_36 : decode cX3_spells 36 = .ok (.iadd, 1) := by decide +kernel
theorem dX3_spells_37 : decode cX3_spells 37 = .ok (.invokevirtual 64, 3) := by decide +kernel
theorem dX3_spells_40 : decode cX3_spells 40 = .ok (.if_icmp .eq 5, 3) := by decide +kernel
theorem dX3_spells_43 : decode cX3_spells 43 = .ok (.iconst 0, 1) := by decide +kernel
theorem dX3_spells_44 : decode cX3_spells 44 = .ok (.ireturn, 1) := by decide +kernel
theorem dX3_spells_45 : decode cX3_spells 45 = .ok (.iinc 3 1, 3) := by decide +kernel
theorem dX3_spells_48 : decode cX3_spells 48 = .ok (.goto (-31), 3) := by decide +kernel
theorem dX3_spells_51 : decode cX3_spells 51 = .ok (.iconst 1, 1) := by decide +kernel
theorem dX3_spells_52 : decode cX3_spells 52 = .ok (.ireturn, 1) := by decide +kernel
theorem dX3_readNumber_0 : decode cX3_readNumber 0 = .ok (.iconst 0, 1) := by decide +kernel
theorem dX3_readNumber_1 : decode cX3_readNumber 1 = .ok (.istore_n 2, 1) := by decide +kernel
theorem dX3_readNumber_2 : decode cX3_readNumber 2 = .ok (.iconst 0, 1) := by decide +kernel
theorem dX3_readNumber_3 : decode cX3_readNumber 3 = .ok (.istore_n 3, 1) := by decide +kernel
theorem dX3_readNumber_4 : decode cX3_readNumber 4 = .ok (.iconst 0, 1) := by decide +kernel
theorem dX3_readNumber_5 : decode cX3_readNumber 5 = .ok (.istore 4, 2) := by decide +kernel
theorem dX3_readNumber_7 : decode cX3_readNumber 7 = .ok (.iload_n 3, 1) := by decide +kernel
theorem dX3_readNumber_8 : decode cX3_readNumber 8 = .ok (.iconst 5, 1) := by decide +kernel
theorem dX3_readNumber_9 : decode cX3_readNumber 9 = .ok (.if_icmp .ge 78, 3) := by decide +kernel
theorem dX3_readNumber_12 : decode cX3_readNumber 12 = .ok (.iload 4, 2) := by decide +kernel
theorem dX3_readNumber_14 : decode cX3_readNumber 14 = .ok (.ifCond .ne 73, 3) := by decide +kernel
theorem dX3_readNumber_17 : decode cX3_readNumber 17 = .ok (.aload_n 0, 1) := by decide +kernel
theorem dX3_readNumber_18 : decode cX3_readNumber 18 = .ok (.aload_n 0, 1) := by decide +kernel
theorem dX3_readNumber_19 : decode cX3_readNumber 19 = .ok (.getfield 24, 3) := by decide +kernel
theorem dX3_readNumber_22 : decode cX3_readNumber 22 = .ok (.invokevirtual 64, 3) := by decide +kernel
theorem dX3_readNumber_25 : decode cX3_readNumber 25 = .ok (.bipush 48, 2) := by decide +kernel
theorem dX3_readNumber_27 : decode cX3_readNumber 27 = .ok (.if_icmp .lt 60, 3) := by decide +kernel
theorem dX3_readNumber_30 : decode cX3_readNumber 30 = .ok (.aload_n 0, 1) := by decide +kernel
theorem dX3_readNumber_31 : decode cX3_readNumber 31 = .ok (.aload_n 0, 1) := by decide +kernel
theorem dX3_readNumber_32 : decode cX3_readNumber 32 = .ok (.getfield 24, 3) := by decide +kernel
theorem dX3_readNumber_35 : decode cX3_readNumber 35 = .ok (.invokevirtual 64, 3) := by decide +kernel
theorem dX3_readNumber_38 : decode cX3_readNumber 38 = .ok (.bipush 57, 2) := by decide +kernel
theorem dX3_readNumber_40 : decode cX3_readNumber 40 = .ok (.if_icmp .gt 47, 3) := by decide +kernel
theorem dX3_readNumber_43 : decode cX3_readNumber 43 = .ok (.bipush 10, 2) := by decide +kernel
theorem dX3_readNumber_45 : decode cX3_readNumber 45 = .ok (.iload_n 2, 1) := by decide +kernel
theorem dX3_readNumber_46 : decode cX3_readNumber 46 = .ok (.imul, 1) := by decide +kernel
theorem dX3_readNumber_47 : decode cX3_readNumber 47 = .ok (.aload_n 0, 1) := by decide +kernel
theorem dX3_readNumber_48 : decode cX3_readNumber 48 = .ok (.aload_n 0, 1) := by decide +kernel
theorem dX3_readNumber_49 : decode cX3_readNumber 49 = .ok (.getfield 24, 3) := by decide +kernel
theorem dX3_readNumber_52 : decode cX3_readNumber 52 = .ok (.invokevirtual 64, 3) := by decide +kernel
theorem dX3_readNumber_55 : decode cX3_readNumber 55 = .ok (.iadd, 1) := by decide +kernel
theorem dX3_readNumber_56 : decode cX3_readNumber 56 = .ok (.bipush 48, 2) := by decide +kernel
theorem dX3_readNumber_58 : decode cX3_readNumber 58 = .ok (.isub, 1) := by decide +kernel
theorem dX3_readNumber_59 : decode cX3_readNumber 59 = .ok (.istore_n 2, 1) := by decide +kernel
theorem dX3_readNumber_60 : decode cX3_readNumber 60 = .ok (.iload_n 2, 1) := by decide +kernel
theorem dX3_readNumber_61 : decode cX3_readNumber 61 = .ok (.ifCond .ne 7, 3) := by decide +kernel
theorem dX3_readNumber_64 : decode cX3_readNumber 64 = .ok (.iconst 1, 1) := by decide +kernel
theorem dX3_readNumber_65 : decode cX3_readNumber 65 = .ok (.goto 4, 3) := by decide +kernel
theorem dX3_readNumber_68 : decode cX3_readNumber 68 = .ok (.iconst 0, 1) := by decide +kernel
theorem dX3_readNumber_69 : decode cX3_readNumber 69 = .ok (.istore 4, 2) := by decide +kernel
theorem dX3_readNumber_71 : decode cX3_readNumber 71 = .ok (.iinc 3 1, 3) := by decide +kernel
theorem dX3_readNumber_74 : decode cX3_readNumber 74 = .ok (.aload_n 0, 1) := by decide +kernel
theorem dX3_readNumber_75 : decode cX3_readNumber 75 = .ok (.dup, 1) := by decide +kernel
theorem dX3_readNumber_76 : decode cX3_readNumber 76 = .ok (.getfield 24, 3) := by decide +kernel
theorem dX3_readNumber_79 : decode cX3_readNumber 79 = .ok (.iconst 1, 1) := by decide +kernel
theorem dX3_readNumber_80 : decode cX3_readNumber 80 = .ok (.iadd, 1) := by decide +kernel
theorem dX3_readNumber_81 : decode cX3_readNumber 81 = .ok (.putfield 24, 3) := by decide +kernel
theorem dX3_readNumber_84 : decode cX3_readNumber 84 = .ok (.goto (-77), 3) := by decide +kernel
theorem dX3_readNumber_87 : decode cX3_readNumber 87 = .ok (.aload_n 0, 1) := by decide +kernel
theorem dX3_readNumber_88 : decode cX3_readNumber 88 = .ok (.getfield 17, 3) := by decide +kernel
theorem dX3_readNumber_91 : decode cX3_readNumber 91 = .ok (.iload_n 1, 1) := by decide +kernel
theorem dX3_readNumber_92 : decode cX3_readNumber 92 = .ok (.iload_n 2, 1) := by decide +kernel
theorem dX3_readNumber_93 : decode cX3_readNumber 93 = .ok (.iastore, 1) := by decide +kernel
theorem dX3_readNumber_94 : decode cX3_readNumber 94 = .ok (.iload_n 3, 1) := by decide +kernel
theorem dX3_readNumber_95 : decode cX3_readNumber 95 = .ok (.ifCond .le 7, 3) := by decide +kernel
theorem dX3_readNumber_98 : decode cX3_readNumber 98 = .ok (.iconst 1, 1) := by decide +kernel
theorem dX3_readNumber_99 : decode cX3_readNumber 99 = .ok (.goto 4, 3) := by decide +kernel
theorem dX3_readNumber_102 : decode cX3_readNumber 102 = .ok (.iconst 0, 1) := by decide +kernel
theorem dX3_readNumber_103 : decode cX3_readNumber 103 = .ok (.ireturn, 1) := by decide +kernel
theorem dX3_leaveOut_0 : decode cX3_leaveOut 0 = .ok (.iload_n 1, 1) := by decide +kernel
theorem dX3_leaveOut_1 : decode cX3_leaveOut 1 = .ok (.istore_n 2, 1) := by decide +kernel
theorem dX3_leaveOut_2 : decode cX3_leaveOut 2 = .ok (.iload_n 2, 1) := by decide +kernel
theorem dX3_leaveOut_3 : decode cX3_leaveOut 3 = .ok (.aload_n 0, 1) := by decide +kernel
theorem dX3_leaveOut_4 : decode cX3_leaveOut 4 = .ok (.getfield 17, 3) := by decide +kernel
theorem dX3_leaveOut_7 : decode cX3_leaveOut 7 = .ok (.arraylength, 1) := by decide +kernel
theorem dX3_leaveOut_8 : decode cX3_leaveOut 8 = .ok (.if_icmp .ge 16, 3) := by decide +kernel
theorem dX3_leaveOut_11 : decode cX3_leaveOut 11 = .ok (.aload_n 0, 1) := by decide +kernel
theorem dX3_leaveOut_12 : decode cX3_leaveOut 12 = .ok (.getfield 17, 3) := by decide +kernel
theorem dX3_leaveOut_15 : decode cX3_leaveOut 15 = .ok (.iload_n 2, 1) := by decide +kernel
theorem dX3_leaveOut_16 : decode cX3_leaveOut 16 = .ok (.iconst (-1), 1) := by decide +kernel
theorem dX3_leaveOut_17 : decode cX3_leaveOut 17 = .ok (.iastore, 1) := by decide +kernel
theorem dX3_leaveOut_18 : decode cX3_leaveOut 18 = .ok (.iinc 2 1, 3) := by decide +kernel
theorem dX3_leaveOut_21 : decode cX3_leaveOut 21 = .ok (.goto (-19), 3) := by decide +kernel
theorem dX3_leaveOut_24 : decode cX3_leaveOut 24 = .ok (.return_, 1) := by decide +kernel
theorem dX3_skip_0 : decode cX3_skip 0 = .ok (.aload_n 0, 1) := by decide +kernel
theorem dX3_skip_1 : decode cX3_skip 1 = .ok (.aload_n 0, 1) := by decide +kernel
theorem dX3_skip_2 : decode cX3_skip 2 = .ok (.getfield 24, 3) := by decide +kernel
theorem dX3_skip_5 : decode cX3_skip 5 = .ok (.invokevirtual 64, 3) := by decide +kernel
theorem dX3_skip_8 : decode cX3_skip 8 = .ok (.iload_n 1, 1) := by decide +kernel
theorem dX3_skip_9 : decode cX3_skip 9 = .ok (.if_icmp .eq 5, 3) := by decide +kernel
theorem dX3_skip_12 : decode cX3_skip 12 = .ok (.iconst 0, 1) := by decide +kernel
theorem dX3_skip_13 : decode cX3_skip 13 = .ok (.ireturn, 1) := by decide +kernel
theorem dX3_skip_14 : decode cX3_skip 14 = .ok (.aload_n 0, 1) := by decide +kernel
theorem dX3_skip_15 : decode cX3_skip 15 = .ok (.dup, 1) := by decide +kernel
theorem dX3_skip_16 : decode cX3_skip 16 = .ok (.getfield 24, 3) := by decide +kernel
theorem dX3_skip_19 : decode cX3_skip 19 = .ok (.iconst 1, 1) := by decide +kernel
theorem dX3_skip_20 : decode cX3_skip 20 = .ok (.iadd, 1) := by decide +kernel
theorem dX3_skip_21 : decode cX3_skip 21 = .ok (.putfield 24, 3) := by decide +kernel
theorem dX3_skip_24 : decode cX3_skip 24 = .ok (.iconst 1, 1) := by decide +kernel
theorem dX3_skip_25 : decode cX3_skip 25 = .ok (.ireturn, 1) := by decide +kernel
theorem dX3_at_0 : decode cX3_at 0 = .ok (.iload_n 1, 1) := by decide +kernel
theorem dX3_at_1 : decode cX3_at 1 = .ok (.ifCond .lt 29, 3) := by decide +kernel
theorem dX3_at_4 : decode cX3_at 4 = .ok (.iload_n 1, 1) := by decide +kernel
theorem dX3_at_5 : decode cX3_at 5 = .ok (.aload_n 0, 1) := by decide +kernel
theorem dX3_at_6 : decode cX3_at 6 = .ok (.getfield 21, 3) := by decide +kernel
theorem dX3_at_9 : decode cX3_at 9 = .ok (.if_icmp .ge 21, 3) := by decide +kernel
theorem dX3_at_12 : decode cX3_at 12 = .ok (.iload_n 1, 1) := by decide +kernel
theorem dX3_at_13 : decode cX3_at 13 = .ok (.aload_n 0, 1) := by decide +kernel
theorem dX3_at_14 : decode cX3_at 14 = .ok (.getfield 9, 3) := by decide +kernel
theorem dX3_at_17 : decode cX3_at 17 = .ok (.arraylength, 1) := by decide +kernel
theorem dX3_at_18 : decode cX3_at 18 = .ok (.if_icmp .ge 12, 3) := by decide +kernel
theorem dX3_at_21 : decode cX3_at 21 = .ok (.aload_n 0, 1) := by decide +kernel
theorem dX3_at_22 : decode cX3_at 22 = .ok (.getfield 9, 3) := by decide +kernel
theorem dX3_at_25 : decode cX3_at 25 = .ok (.iload_n 1, 1) := by decide +kernel
theorem dX3_at_26 : decode cX3_at 26 = .ok (.caload, 1) := by decide +kernel
theorem dX3_at_27 : decode cX3_at 27 = .ok (.goto 4, 3) := by decide +kernel
theorem dX3_at_30 : decode cX3_at 30 = .ok (.iconst 0, 1) := by decide +kernel
theorem dX3_at_31 : decode cX3_at 31 = .ok (.ireturn, 1) := by decide +kernel
theorem dX4_init_0 : decode cX4_init 0 = .ok (.aload_n 0, 1) := by decide +kernel
theorem dX4_init_1 : decode cX4_init 1 = .ok (.invokespecial 1, 3) := by decide +kernel
theorem dX4_init_4 : decode cX4_init 4 = .ok (.aload_n 0, 1) := by decide +kernel
theorem dX4_init_5 : decode cX4_init 5 = .ok (.iconst 0, 1) := by decide +kernel
theorem dX4_init_6 : decode cX4_init 6 = .ok (.putfield 9, 3) := by decide +kernel
theorem dX4_init_9 : decode cX4_init 9 = .ok (.aload_n 0, 1) := by decide +kernel
theorem dX4_init_10 : decode cX4_init 10 = .ok (.iconst 5, 1) := by decide +kernel
theorem dX4_init_11 : decode cX4_init 11 = .ok (.newarray .int, 2) := by decide +kernel
theorem dX4_init_13 : decode cX4_init 13 = .ok (.putfield 13, 3) := by decide +kernel
theorem dX4_init_16 : decode cX4_init 16 = .ok (.aload_n 0, 1) := by decide +kernel
theorem dX4_init_17 : decode cX4_init 17 = .ok (.iconst 5, 1) := by decide +kernel
theorem dX4_init_18 : decode cX4_init 18 = .ok (.newarray .int, 2) := by decide +kernel
theorem dX4_init_20 : decode cX4_init 20 = .ok (.putfield 17, 3) := by decide +kernel
theorem dX4_init_23 : decode cX4_init 23 = .ok (.aload_n 0, 1) := by decide +kernel
theorem dX4_init_24 : decode cX4_init 24 = .ok (.iconst 5, 1) := by decide +kernel
theorem dX4_init_25 : decode cX4_init 25 = .ok (.newarray .int, 2) := by decide +kernel
theorem dX4_init_27 : decode cX4_init 27 = .ok (.putfield 20, 3) := by decide +kernel
theorem dX4_init_30 : decode cX4_init 30 = .ok (.aload_n 0, 1) := by decide +kernel
theorem dX4_init_31 : decode cX4_init 31 = .ok (.iconst 5, 1) := by decide +kernel
theorem dX4_init_32 : decode cX4_init 32 = .ok (.newarray .int, 2) := by decide +kernel
theorem dX4_init_34 : decode cX4_init 34 = .ok (.putfield 23, 3) := by decide +kernel
theorem dX4_init_37 : decode cX4_init 37 = .ok (.return_, 1) := by decide +kernel
theorem dX4_isFull_0 : decode cX4_isFull 0 = .ok (.aload_n 0, 1) := by decide +kernel
theorem dX4_isFull_1 : decode cX4_isFull 1 = .ok (.getfield 26, 3) := by decide +kernel
theorem dX4_isFull_4 : decode cX4_isFull 4 = .ok (.aload_n 0, 1) := by decide +kernel
theorem dX4_isFull_5 : decode cX4_isFull 5 = .ok (.getfield 13, 3) := by decide +kernel
theorem dX4_isFull_8 : decode cX4_isFull 8 = .ok (.arraylength, 1) := by decide +kernel
theorem dX4_isFull_9 : decode cX4_isFull 9 = .ok (.if_icmp .lt 7, 3) := by decide +kernel
theorem dX4_isFull_12 : decode cX4_isFull 12 = .ok (.iconst 1, 1) := by decide +kernel
theorem dX4_isFull_13 : decode cX4_isFull 13 = .ok (.goto 4, 3) := by decide +kernel
theorem dX4_isFull_16 : decode cX4_isFull 16 = .ok (.iconst 0, 1) := by decide +kernel
theorem dX4_isFull_17 : decode cX4_isFull 17 = .ok (.ireturn, 1) := by decide +kernel
theorem dX4_takes_0 : decode cX4_takes 0 = .ok (.aload_n 0, 1) := by decide +kernel
theorem dX4_takes_1 : decode cX4_takes 1 = .ok (.getfield 9, 3) := by decide +kernel
theorem dX4_takes_4 : decode cX4_takes 4 = .ok (.ifCond .eq 20, 3) := by decide +kernel
theorem dX4_takes_7 : decode cX4_takes 7 = .ok (.iload_n 1, 1) := by decide +kernel
theorem dX4_takes_8 : decode cX4_takes 8 = .ok (.ifCond .eq 20, 3) := by decide +kernel
theorem dX4_takes_11 : decode cX4_takes 11 = .ok (.aload_n 0, 1) := by decide +kernel
theorem dX4_takes_12 : decode cX4_takes 12 = .ok (.getfield 9, 3) := by decide +kernel
theorem dX4_takes_15 : decode cX4_takes 15 = .ok (.iconst 1, 1) := by decide +kernel
theorem dX4_takes_16 : decode cX4_takes 16 = .ok (.if_icmp .eq 8, 3) := by decide +kernel
theorem dX4_takes_19 : decode cX4_takes 19 = .ok (.iload_n 2, 1) := by decide +kernel
theorem dX4_takes_20 : decode cX4_takes 20 = .ok (.iconst 2, 1) := by decide +kernel
theorem dX4_takes_21 : decode cX4_takes 21 = .ok (.if_icmp .ne 7, 3) := by decide +kernel
theorem dX4_takes_24 : decode cX4_takes 24 = .ok (.iconst 1, 1) := by decide +kernel
theorem dX4_takes_25 : decode cX4_takes 25 = .ok (.goto 4, 3) := by decide +kernel
theorem dX4_takes_28 : decode cX4_takes 28 = .ok (.iconst 0, 1) := by decide +kernel
theorem dX4_takes_29 : decode cX4_takes 29 = .ok (.ireturn, 1) := by decide +kernel
theorem dX4_add_0 : decode cX4_add 0 = .ok (.aload_n 0, 1) := by decide +kernel
theorem dX4_add_1 : decode cX4_add 1 = .ok (.getfield 26, 3) := by decide +kernel
theorem dX4_add_4 : decode cX4_add 4 = .ok (.aload_n 0, 1) := by decide +kernel
theorem dX4_add_5 : decode cX4_add 5 = .ok (.getfield 13, 3) := by decide +kernel
theorem dX4_add_8 : decode cX4_add 8 = .ok (.arraylength, 1) := by decide +kernel
theorem dX4_add_9 : decode cX4_add 9 = .ok (.if_icmp .ge 54, 3) := by decide +kernel
theorem dX4_add_12 : decode cX4_add 12 = .ok (.aload_n 0, 1) := by decide +kernel
theorem dX4_add_13 : decode cX4_add 13 = .ok (.getfield 13, 3) := by decide +kernel
theorem dX4_add_16 : decode cX4_add 16 = .ok (.aload_n 0, 1) := by decide +kernel
theorem dX4_add_17 : decode cX4_add 17 = .ok (.getfield 26, 3) := by decide +kernel
theorem dX4_add_20 : decode cX4_add 20 = .ok (.iload_n 1, 1) := by decide +kernel
theorem dX4_add_21 : decode cX4_add 21 = .ok (.iastore, 1) := by decide +kernel
theorem dX4_add_22 : decode cX4_add 22 = .ok (.aload_n 0, 1) := by decide +kernel
theorem dX4_add_23 : decode cX4_add 23 = .ok (.getfield 17, 3) := by decide +kernel
theorem dX4_add_26 : decode cX4_add 26 = .ok (.aload_n 0, 1) := by decide +kernel
theorem dX4_add_27 : decode cX4_add 27 = .ok (.getfield 26, 3) := by decide +kernel
theorem dX4_add_30 : decode cX4_add 30 = .ok (.iload_n 2, 1) := by decide +kernel
theorem dX4_add_31 : decode cX4_add 31 = .ok (.iastore, 1) := by decide +kernel
theorem dX4_add_32 : decode cX4_add 32 = .ok (.aload_n 0, 1) := by decide +kernel
theorem dX4_add_33 : decode cX4_add 33 = .ok (.getfield 20, 3) := by decide +kernel
theorem dX4_add_36 : decode cX4_add 36 = .ok (.aload_n 0, 1) := by decide +kernel
theorem dX4_add_37 : decode cX4_add 37 = .ok (.getfield 26, 3) := by decide +kernel
theorem dX4_add_40 : decode cX4_add 40 = .ok (.iload_n 3, 1) := by decide +kernel
theorem dX4_add_41 : decode cX4_add 41 = .ok (.iastore, 1) := by decide +kernel
theorem dX4_add_42 : decode cX4_add 42 = .ok (.aload_n 0, 1) := by decide +kernel
theorem dX4_add_43 : decode cX4_add 43 = .ok (.getfield 23, 3) := by decide +kernel
theorem dX4_add_46 : decode cX4_add 46 = .ok (.aload_n 0, 1) := by decide +kernel
theorem dX4_add_47 : decode cX4_add 47 = .ok (.getfield 26, 3) := by decide +kernel
theorem dX4_add_50 : decode cX4_add 50 = .ok (.iload 4, 2) := by decide +kernel
theorem dX4_add_52 : decode cX4_add 52 = .ok (.iastore, 1) := by decide +kernel
theorem dX4_add_53 : decode cX4_add 53 = .ok (.aload_n 0, 1) := by decide +kernel
theorem dX4_add_54 : decode cX4_add 54 = .ok (.dup, 1) := by decide +kernel
theorem dX4_add_55 : decode cX4_add 55 = .ok (.getfield 26, 3) := by decide +kernel
theorem dX4_add_58 : decode cX4_add 58 = .ok (.iconst 1, 1) := by decide +kernel
theorem dX4_add_59 : decode cX4_add 59 = .ok (.iadd, 1) := by decide +kernel
theorem dX4_add_60 : decode cX4_add 60 = .ok (.putfield 26, 3) := by decide +kernel
theorem dX4_add_63 : decode cX4_add 63 = .ok (.return_, 1) := by decide +kernel
theorem dX4_number_0 : decode cX4_number 0 = .ok (.iload_n 2, 1) := by decide +kernel
theorem dX4_number_1 : decode cX4_number 1 = .ok (.tableswitch 48 0 2 #[27, 34, 41], 27) := by decide +kernel
theorem dX4_number_28 : decode cX4_number 28 = .ok (.aload_n 0, 1) := by decide +kernel
theorem dX4_number_29 : decode cX4_number 29 = .ok (.getfield 13, 3) := by decide +kernel
theorem dX4_number_32 : decode cX4_number 32 = .ok (.iload_n 1, 1) := by decide +kernel
theorem dX4_number_33 : decode cX4_number 33 = .ok (.iaload, 1) := by decide +kernel
theorem dX4_number_34 : decode cX4_number 34 = .ok (.ireturn, 1) := by decide +kernel
theorem dX4_number_35 : decode cX4_number 35 = .ok (.aload_n 0, 1) := by decide +kernel
theorem dX4_number_36 : decode cX4_number 36 = .ok (.getfield 17, 3) := by decide +kernel
theorem dX4_number_39 : decode cX4_number 39 = .ok (.iload_n 1, 1) := by decide +kernel
theorem dX4_number_40 : decode cX4_number 40 = .ok (.iaload, 1) := by decide +kernel
theorem dX4_number_41 : decode cX4_number 41 = .ok (.ireturn, 1) := by decide +kernel
theorem dX4_number_42 : decode cX4_number 42 = .ok (.aload_n 0, 1) := by decide +kernel
theorem dX4_number_43 : decode cX4_number 43 = .ok (.getfield 20, 3) := by decide +kernel
theorem dX4_number_46 : decode cX4_number 46 = .ok (.iload_n 1, 1) := by decide +kernel
theorem dX4_number_47 : decode cX4_number 47 = .ok (.iaload, 1) := by decide +kernel
theorem dX4_number_48 : decode cX4_number 48 = .ok (.ireturn, 1) := by decide +kernel
theorem dX4_number_49 : decode cX4_number 49 = .ok (.aload_n 0, 1) := by decide +kernel
theorem dX4_number_50 : decode cX4_number 50 = .ok (.getfield 23, 3) := by decide +kernel
theorem dX4_number_53 : decode cX4_number 53 = .ok (.iload_n 1, 1) := by decide +kernel
theorem dX4_number_54 : decode cX4_number 54 = .ok (.iaload, 1) := by decide +kernel
theorem dX4_number_55 : decode cX4_number 55 = .ok (.ireturn, 1) := by decide +kernel
theorem dX5_init_0 : decode cX5_init 0 = .ok (.aload_n 0, 1) := by decide +kernel
theorem dX5_init_1 : decode cX5_init 1 = .ok (.invokespecial 3, 3) := by decide +kernel
theorem dX5_init_4 : decode cX5_init 4 = .ok (.aload_n 0, 1) := by decide +kernel
theorem dX5_init_5 : decode cX5_init 5 = .ok (.iconst 3, 1) := by decide +kernel
theorem dX5_init_6 : decode cX5_init 6 = .ok (.newarray .int, 2) := by decide +kernel
theorem dX5_init_8 : decode cX5_init 8 = .ok (.putfield 9, 3) := by decide +kernel
theorem dX5_init_11 : decode cX5_init 11 = .ok (.aload_n 0, 1) := by decide +kernel
theorem dX5_init_12 : decode cX5_init 12 = .ok (.sipush 200, 3) := by decide +kernel
theorem dX5_init_15 : decode cX5_init 15 = .ok (.newarray .int, 2) := by decide +kernel
theorem dX5_init_17 : decode cX5_init 17 = .ok (.putfield 15, 3) := by decide +kernel
theorem dX5_init_20 : decode cX5_init 20 = .ok (.aload_n 0, 1) := by decide +kernel
theorem dX5_init_21 : decode cX5_init 21 = .ok (.sipush 200, 3) := by decide +kernel
theorem dX5_init_24 : decode cX5_init 24 = .ok (.newarray .int, 2) := by decide +kernel
theorem dX5_init_26 : decode cX5_init 26 = .ok (.putfield 18, 3) := by decide +kernel
theorem dX5_init_29 : decode cX5_init 29 = .ok (.aload_n 0, 1) := by decide +kernel
theorem dX5_init_30 : decode cX5_init 30 = .ok (.sipush 200, 3) := by decide +kernel
theorem dX5_init_33 : decode cX5_init 33 = .ok (.newarray .int, 2) := by decide +kernel
theorem dX5_init_35 : decode cX5_init 35 = .ok (.putfield 21, 3) := by decide +kernel
theorem dX5_init_38 : decode cX5_init 38 = .ok (.aload_n 0, 1) := by decide +kernel
theorem dX5_init_39 : decode cX5_init 39 = .ok (.sipush 200, 3) := by decide +kernel
theorem dX5_init_42 : decode cX5_init 42 = .ok (.newarray .int, 2) := by decide +kernel
theorem dX5_init_44 : decode cX5_init 44 = .ok (.putfield 24, 3) := by decide +kernel
theorem dX5_init_47 : decode cX5_init 47 = .ok (.aload_n 0, 1) := by decide +kernel
theorem dX5_init_48 : decode cX5_init 48 = .ok (.sipush 200, 3) := by decide +kernel
theorem dX5_init_51 : decode cX5_init 51 = .ok (.newarray .int, 2) := by decide +kernel
theorem dX5_init_53 : decode cX5_init 53 = .ok (.putfield 27, 3) := by decide +kernel
theorem dX5_init_56 : decode cX5_init 56 = .ok (.aload_n 0, 1) := by decide +kernel
theorem dX5_init_57 : decode cX5_init 57 = .ok (.sipush 200, 3) := by decide +kernel
theorem dX5_init_60 : decode cX5_init 60 = .ok (.newarray .int, 2) := by decide +kernel
theorem dX5_init_62 : decode cX5_init 62 = .ok (.putfield 30, 3) := by decide +kernel
theorem dX5_init_65 : decode cX5_init 65 = .ok (.return_, 1) := by decide +kernel
theorem dX5_begin_0 : decode cX5_begin 0 = .ok (.aload_n 0, 1) := by decide +kernel
theorem dX5_begin_1 : decode cX5_begin 1 = .ok (.iload_n 1, 1) := by decide +kernel
theorem dX5_begin_2 : decode cX5_begin 2 = .ok (.putfield 33, 3) := by decide +kernel
theorem dX5_begin_5 : decode cX5_begin 5 = .ok (.aload_n 0, 1) := by decide +kernel
theorem dX5_begin_6 : decode cX5_begin 6 = .ok (.iload_n 2, 1) := by decide +kernel
theorem dX5_begin_7 : decode cX5_begin 7 = .ok (.putfield 37, 3) := by decide +kernel
theorem dX5_begin_10 : decode cX5_begin 10 = .ok (.aload_n 0, 1) := by decide +kernel
theorem dX5_begin_11 : decode cX5_begin 11 = .ok (.iload_n 3, 1) := by decide +kernel
theorem dX5_begin_12 : decode cX5_begin 12 = .ok (.sipush 200, 3) := by decide +kernel
theorem dX5_begin_15 : decode cX5_begin 15 = .ok (.invokestatic 40, 3) := by decide +kernel
theorem dX5_begin_18 : decode cX5_begin 18 = .ok (.putfield 46, 3) := by decide +kernel
theorem dX5_begin_21 : decode cX5_begin 21 = .ok (.aload_n 0, 1) := by decide +kernel
theorem dX5_begin_22 : decode cX5_begin 22 = .ok (.iconst 0, 1) := by decide +kernel
theorem dX5_begin_23 : decode cX5_begin 23 = .ok (.putfield 49, 3) := by decide +kernel
theorem dX5_begin_26 : decode cX5_begin 26 = .ok (.aload_n 0, 1) := by decide +kernel
theorem dX5_begin_27 : decode cX5_begin 27 = .ok (.iconst 0, 1) := by decide +kernel
theorem dX5_begin_28 : decode cX5_begin 28 = .ok (.putfield 52, 3) := by decide +kernel
theorem dX5_begin_31 : decode cX5_begin 31 = .ok (.aload_n 0, 1) := by decide +kernel
theorem dX5_begin_32 : decode cX5_begin 32 = .ok (.iconst (-1), 1) := by decide +kernel
theorem dX5_begin_33 : decode cX5_begin 33 = .ok (.putfield 55, 3) := by decide +kernel
theorem dX5_begin_36 : decode cX5_begin 36 = .ok (.aload_n 0, 1) := by decide +kernel
theorem dX5_begin_37 : decode cX5_begin 37 = .ok (.iconst (-1), 1) := by decide +kernel
theorem dX5_begin_38 : decode cX5_begin 38 = .ok (.putfield 58, 3) := by decide +kernel
theorem dX5_begin_41 : decode cX5_begin 41 = .ok (.aload_n 0, 1) := by decide +kernel
theorem dX5_begin_42 : decode cX5_begin 42 = .ok (.iconst (-1), 1) := by decide +kernel
theorem dX5_begin_43 : decode cX5_begin 43 = .ok (.putfield 61, 3) := by decide +kernel
theorem dX5_begin_46 : decode cX5_begin 46 = .ok (.aload_n 0, 1) := by decide +kernel
theorem dX5_begin_47 : decode cX5_begin 47 = .ok (.iconst (-1), 1) := by decide +kernel
theorem dX5_begin_48 : decode cX5_begin 48 = .ok (.putfield 64, 3) := by decide +kernel
theorem dX5_begin_51 : decode cX5_begin 51 = .ok (.aload_n 0, 1) := by decide +kernel
theorem dX5_begin_52 : decode cX5_begin 52 = .ok (.iconst 0, 1) := by decide +kernel
theorem dX5_begin_53 : decode cX5_begin 53 = .ok (.putfield 67, 3) := by decide +kernel
theorem dX5_begin_56 : decode cX5_begin 56 = .ok (.iconst 0, 1) := by decide +kernel
theorem dX5_begin_57 : decode cX5_begin 57 = .ok (.istore 4, 2) := by decide +kernel
theorem dX5_begin_59 : decode cX5_begin 59 = .ok (.iload 4, 2) := by decide +kernel
theorem dX5_begin_61 : decode cX5_begin 61 = .ok (.aload_n 0, 1) := by decide +kernel
theorem dX5_begin_62 : decode cX5_begin 62 = .ok (.getfield 46, 3) := by decide +kernel
theorem dX5_begin_65 : decode cX5_begin 65 = .ok (.if_icmp .ge 57, 3) := by decide +kernel
theorem dX5_begin_68 : decode cX5_begin 68 = .ok (.aload_n 0, 1) := by decide +kernel
theorem dX5_begin_69 : decode cX5_begin 69 = .ok (.getfield 15, 3) := by decide +kernel
theorem dX5_begin_72 : decode cX5_begin 72 = .ok (.iload 4, 2) := by decide +kernel
theorem dX5_begin_74 : decode cX5_begin 74 = .ok (.iconst 0, 1) := by decide +kernel
theorem dX5_begin_75 : decode cX5_begin 75 = .ok (.iastore, 1) := by decide +kernel
theorem dX5_begin_76 : decode cX5_begin 76 = .ok (.aload_n 0, 1) := by decide +kernel
theorem dX5_begin_77 : decode cX5_begin 77 = .ok (.getfield 18, 3) := by decide +kernel
theorem dX5_begin_80 : decode cX5_begin 80 = .ok (.iload 4, 2) := by decide +kernel
theorem dX5_begin_82 : decode cX5_begin 82 = .ok (.iconst 0, 1) := by decide +kernel
theorem dX5_begin_83 : decode cX5_begin 83 = .ok (.iastore, 1) := by decide +kernel
theorem dX5_begin_84 : decode cX5_begin 84 = .ok (.aload_n 0, 1) := by decide +kernel
theorem dX5_begin_85 : decode cX5_begin 85 = .ok (.getfield 21, 3) := by decide +kernel
theorem dX5_begin_88 : decode cX5_begin 88 = .ok (.iload 4, 2) := by decide +kernel
theorem dX5_begin_90 : decode cX5_begin 90 = .ok (.iconst 0, 1) := by decide +kernel
theorem dX5_begin_91 : decode cX5_begin 91 = .ok (.iastore, 1) := by decide +kernel
theorem dX5_begin_92 : decode cX5_begin 92 = .ok (.aload_n 0, 1) := by decide +kernel
theorem dX5_begin_93 : decode cX5_begin 93 = .ok (.getfield 24, 3) := by decide +kernel
theorem dX5_begin_96 : decode cX5_begin 96 = .ok (.iload 4, 2) := by decide +kernel
theorem dX5_begin_98 : decode cX5_begin 98 = .ok (.iconst 0, 1) := by decide +kernel
theorem dX5_begin_99 : decode cX5_begin 99 = .ok (.iastore, 1) := by decide +kernel
theorem dX5_begin_100 : decode cX5_begin 100 = .ok (.aload_n 0, 1) := by decide +kernel
theorem dX5_begin_101 : decode cX5_begin 101 = .ok (.getfield 27, 3) := by decide +kernel
theorem dX5_begin_104 : decode cX5_begin 104 = .ok (.iload 4, 2) := by decide +kernel
theorem dX5_begin_106 : decode cX5_begin 106 = .ok (.iconst (-1), 1) := by decide +kernel
theorem dX5_begin_107 : decode cX5_begin 107 = .ok (.iastore, 1) := by decide +kernel
theorem dX5_begin_108 : decode cX5_begin 108 = .ok (.aload_n 0, 1) := by decide +kernel
theorem dX5_begin_109 : decode cX5_begin 109 = .ok (.getfield 30, 3) := by decide +kernel
theorem dX5_begin_112 : decode cX5_begin 112 = .ok (.iload 4, 2) := by decide +kernel
theorem dX5_begin_114 : decode cX5_begin 114 = .ok (.iconst 0, 1) := by decide +kernel
theorem dX5_begin_115 : decode cX5_begin 115 = .ok (.iastore, 1) := by decide +kernel
theorem dX5_begin_116 : decode cX5_begin 116 = .ok (.iinc 4 1, 3) := by decide +kernel
theorem dX5_begin_119 : decode cX5_begin 119 = .ok (.goto (-60), 3) := by decide +kernel
theorem dX5_begin_122 : decode cX5_begin 122 = .ok (.return_, 1) := by decide +kernel
theorem dX5_copyFrom_0 : decode cX5_copyFrom 0 = .ok (.aload_n 0, 1) := by decide +kernel
theorem dX5_copyFrom_1 : decode cX5_copyFrom 1 = .ok (.aload_n 1, 1) := by decide +kernel
theorem dX5_copyFrom_2 : decode cX5_copyFrom 2 = .ok (.getfield 33, 3) := by decide +kernel
theorem dX5_copyFrom_5 : decode cX5_copyFrom 5 = .ok (.putfield 33, 3) := by decide +kernel
theorem dX5_copyFrom_8 : decode cX5_copyFrom 8 = .ok (.aload_n 0, 1) := by decide +kernel
theorem dX5_copyFrom_9 : decode cX5_copyFrom 9 = .ok (.aload_n 1, 1) := by decide +kernel
theorem dX5_copyFrom_10 : decode cX5_copyFrom 10 = .ok (.getfield 37, 3) := by decide +kernel
theorem dX5_copyFrom_13 : decode cX5_copyFrom 13 = .ok (.putfield 37, 3) := by decide +kernel
theorem dX5_copyFrom_16 : decode cX5_copyFrom 16 = .ok (.aload_n 0, 1) := by decide +kernel
theorem dX5_copyFrom_17 : decode cX5_copyFrom 17 = .ok (.aload_n 1, 1) := by decide +kernel
theorem dX5_copyFrom_18 : decode cX5_copyFrom 18 = .ok (.getfield 46, 3) := by decide +kernel
theorem dX5_copyFrom_21 : decode cX5_copyFrom 21 = .ok (.putfield 46, 3) := by decide +kernel
theorem dX5_copyFrom_24 : decode cX5_copyFrom 24 = .ok (.aload_n 0, 1) := by decide +kernel
theorem dX5_copyFrom_25 : decode cX5_copyFrom 25 = .ok (.aload_n 1, 1) := by decide +kernel
theorem dX5_copyFrom_26 : decode cX5_copyFrom 26 = .ok (.getfield 49, 3) := by decide +kernel
theorem dX5_copyFrom_29 : decode cX5_copyFrom 29 = .ok (.putfield 49, 3) := by decide +kernel
theorem dX5_copyFrom_32 : decode cX5_copyFrom 32 = .ok (.aload_n 0, 1) := by decide +kernel
theorem dX5_copyFrom_33 : decode cX5_copyFrom 33 = .ok (.aload_n 1, 1) := by decide +kernel
theorem dX5_copyFrom_34 : decode cX5_copyFrom 34 = .ok (.getfield 52, 3) := by decide +kernel
theorem dX5_copyFrom_37 : decode cX5_copyFrom 37 = .ok (.putfield 52, 3) := by decide +kernel
theorem dX5_copyFrom_40 : decode cX5_copyFrom 40 = .ok (.aload_n 0, 1) := by decide +kernel
theorem dX5_copyFrom_41 : decode cX5_copyFrom 41 = .ok (.aload_n 1, 1) := by decide +kernel
theorem dX5_copyFrom_42 : decode cX5_copyFrom 42 = .ok (.getfield 55, 3) := by decide +kernel
theorem dX5_copyFrom_45 : decode cX5_copyFrom 45 = .ok (.putfield 55, 3) := by decide +kernel
theorem dX5_copyFrom_48 : decode cX5_copyFrom 48 = .ok (.aload_n 0, 1) := by decide +kernel
theorem dX5_copyFrom_49 : decode cX5_copyFrom 49 = .ok (.aload_n 1, 1) := by decide +kernel
theorem dX5_copyFrom_50 : decode cX5_copyFrom 50 = .ok (.getfield 58, 3) := by decide +kernel
theorem dX5_copyFrom_53 : decode cX5_copyFrom 53 = .ok (.putfield 58, 3) := by decide +kernel
theorem dX5_copyFrom_56 : decode cX5_copyFrom 56 = .ok (.aload_n 0, 1) := by decide +kernel
theorem dX5_copyFrom_57 : decode cX5_copyFrom 57 = .ok (.aload_n 1, 1) := by decide +kernel
theorem dX5_copyFrom_58 : decode cX5_copyFrom 58 = .ok (.getfield 61, 3) := by decide +kernel
theorem dX5_copyFrom_61 : decode cX5_copyFrom 61 = .ok (.putfield 61, 3) := by decide +kernel
theorem dX5_copyFrom_64 : decode cX5_copyFrom 64 = .ok (.aload_n 0, 1) := by decide +kernel
theorem dX5_copyFrom_65 : decode cX5_copyFrom 65 = .ok (.aload_n 1, 1) := by decide +kernel
theorem dX5_copyFrom_66 : decode cX5_copyFrom 66 = .ok (.getfield 64, 3) := by decide +kernel
theorem dX5_copyFrom_69 : decode cX5_copyFrom 69 = .ok (.putfield 64, 3) := by decide +kernel
theorem dX5_copyFrom_72 : decode cX5_copyFrom 72 = .ok (.aload_n 0, 1) := by decide +kernel
theorem dX5_copyFrom_73 : decode cX5_copyFrom 73 = .ok (.aload_n 1, 1) := by decide +kernel
theorem dX5_copyFrom_74 : decode cX5_copyFrom 74 = .ok (.getfield 67, 3) := by decide +kernel
theorem dX5_copyFrom_77 : decode cX5_copyFrom 77 = .ok (.putfield 67, 3) := by decide +kernel
theorem dX5_copyFrom_80 : decode cX5_copyFrom 80 = .ok (.aload_n 1, 1) := by decide +kernel
theorem dX5_copyFrom_81 : decode cX5_copyFrom 81 = .ok (.getfield 9, 3) := by decide +kernel
theorem dX5_copyFrom_84 : decode cX5_copyFrom 84 = .ok (.iconst 0, 1) := by decide +kernel
theorem dX5_copyFrom_85 : decode cX5_copyFrom 85 = .ok (.aload_n 0, 1) := by decide +kernel
theorem dX5_copyFrom_86 : decode cX5_copyFrom 86 = .ok (.getfield 9, 3) := by decide +kernel
theorem dX5_copyFrom_89 : decode cX5_copyFrom 89 = .ok (.iconst 0, 1) := by decide +kernel
theorem dX5_copyFrom_90 : decode cX5_copyFrom 90 = .ok (.aload_n 0, 1) := by decide +kernel
theorem dX5_copyFrom_91 : decode cX5_copyFrom 91 = .ok (.getfield 9, 3) := by decide +kernel
theorem dX5_copyFrom_94 : decode cX5_copyFrom 94 = .ok (.arraylength, 1) := by decide +kernel
theorem dX5_copyFrom_95 : decode cX5_copyFrom 95 = .ok (.invokestatic 70, 3) := by decide +kernel
theorem dX5_copyFrom_98 : decode cX5_copyFrom 98 = .ok (.aload_n 1, 1) := by decide +kernel
theorem dX5_copyFrom_99 : decode cX5_copyFrom 99 = .ok (.getfield 15, 3) := by decide +kernel
theorem dX5_copyFrom_102 : decode cX5_copyFrom 102 = .ok (.iconst 0, 1) := by decide +kernel
theorem dX5_copyFrom_103 : decode cX5_copyFrom 103 = .ok (.aload_n 0, 1) := by decide +kernel
theorem dX5_copyFrom_104 : decode cX5_copyFrom 104 = .ok (.getfield 15, 3) := by decide +kernel
theorem dX5_copyFrom_107 : decode cX5_copyFrom 107 = .ok (.iconst 0, 1) := by decide +kernel
theorem dX5_copyFrom_108 : decode cX5_copyFrom 108 = .ok (.aload_n 0, 1) := by decide +kernel
theorem dX5_copyFrom_109 : decode cX5_copyFrom 109 = .ok (.getfield 46, 3) := by decide +kernel
theorem dX5_copyFrom_112 : decode cX5_copyFrom 112 = .ok (.invokestatic 70, 3) := by decide +kernel
theorem dX5_copyFrom_115 : decode cX5_copyFrom 115 = .ok (.aload_n 1, 1) := by decide +kernel
theorem dX5_copyFrom_116 : decode cX5_copyFrom 116 = .ok (.getfield 18, 3) := by decide +kernel
theorem dX5_copyFrom_119 : decode cX5_copyFrom 119 = .ok (.iconst 0, 1) := by decide +kernel
theorem dX5_copyFrom_120 : decode cX5_copyFrom 120 = .ok (.aload_n 0, 1) := by decide +kernel
theorem dX5_copyFrom_121 : decode cX5_copyFrom 121 = .ok (.getfield 18, 3) := by decide +kernel
theorem dX5_copyFrom_124 : decode cX5_copyFrom 124 = .ok (.iconst 0, 1) := by decide +kernel
theorem dX5_copyFrom_125 : decode cX5_copyFrom 125 = .ok (.aload_n 0, 1) := by decide +kernel
theorem dX5_copyFrom_126 : decode cX5_copyFrom 126 = .ok (.getfield 46, 3) := by decide +kernel
theorem dX5_copyFrom_129 : decode cX5_copyFrom 129 = .ok (.invokestatic 70, 3) := by decide +kernel
theorem dX5_copyFrom_132 : decode cX5_copyFrom 132 = .ok (.aload_n 1, 1) := by decide +kernel
theorem dX5_copyFrom_133 : decode cX5_copyFrom 133 = .ok (.getfield 21, 3) := by decide +kernel
theorem dX5_copyFrom_136 : decode cX5_copyFrom 136 = .ok (.iconst 0, 1) := by decide +kernel
theorem dX5_copyFrom_137 : decode cX5_copyFrom 137 = .ok (.aload_n 0, 1) := by decide +kernel
theorem dX5_copyFrom_138 : decode cX5_copyFrom 138 = .ok (.getfield 21, 3) := by decide +kernel
theorem dX5_copyFrom_141 : decode cX5_copyFrom 141 = .ok (.iconst 0, 1) := by decide +kernel
theorem dX5_copyFrom_142 : decode cX5_copyFrom 142 = .ok (.aload_n 0, 1) := by decide +kernel
theorem dX5_copyFrom_143 : decode cX5_copyFrom 143 = .ok (.getfield 46, 3) := by decide +kernel
theorem dX5_copyFrom_146 : decode cX5_copyFrom 146 = .ok (.invokestatic 70, 3) := by decide +kernel
theorem dX5_copyFrom_149 : decode cX5_copyFrom 149 = .ok (.aload_n 1, 1) := by decide +kernel
theorem dX5_copyFrom_150 : decode cX5_copyFrom 150 = .ok (.getfield 24, 3) := by decide +kernel
theorem dX5_copyFrom_153 : decode cX5_copyFrom 153 = .ok (.iconst 0, 1) := by decide +kernel
theorem dX5_copyFrom_154 : decode cX5_copyFrom 154 = .ok (.aload_n 0, 1) := by decide +kernel
theorem dX5_copyFrom_155 : decode cX5_copyFrom 155 = .ok (.getfield 24, 3) := by decide +kernel
theorem dX5_copyFrom_158 : decode cX5_copyFrom 158 = .ok (.iconst 0, 1) := by decide +kernel
theorem dX5_copyFrom_159 : decode cX5_copyFrom 159 = .ok (.aload_n 0, 1) := by decide +kernel
theorem dX5_copyFrom_160 : decode cX5_copyFrom 160 = .ok (.getfield 46, 3) := by decide +kernel
theorem dX5_copyFrom_163 : decode cX5_copyFrom 163 = .ok (.invokestatic 70, 3) := by decide +kernel
theorem dX5_copyFrom_166 : decode cX5_copyFrom 166 = .ok (.aload_n 1, 1) := by decide +kernel
theorem dX5_copyFrom_167 : decode cX5_copyFrom 167 = .ok (.getfield 27, 3) := by decide +kernel
theorem dX5_copyFrom_170 : decode cX5_copyFrom 170 = .ok (.iconst 0, 1) := by decide +kernel
theorem dX5_copyFrom_171 : decode cX5_copyFrom 171 = .ok (.aload_n 0, 1) := by decide +kernel
theorem dX5_copyFrom_172 : decode cX5_copyFrom 172 = .ok (.getfield 27, 3) := by decide +kernel
theorem dX5_copyFrom_175 : decode cX5_copyFrom 175 = .ok (.iconst 0, 1) := by decide +kernel
theorem dX5_copyFrom_176 : decode cX5_copyFrom 176 = .ok (.aload_n 0, 1) := by decide +kernel
theorem dX5_copyFrom_177 : decode cX5_copyFrom 177 = .ok (.getfield 46, 3) := by decide +kernel
theorem dX5_copyFrom_180 : decode cX5_copyFrom 180 = .ok (.invokestatic 70, 3) := by decide +kernel
theorem dX5_copyFrom_183 : decode cX5_copyFrom 183 = .ok (.aload_n 1, 1) := by decide +kernel
theorem dX5_copyFrom_184 : decode cX5_copyFrom 184 = .ok (.getfield 30, 3) := by decide +kernel
theorem dX5_copyFrom_187 : decode cX5_copyFrom 187 = .ok (.iconst 0, 1) := by decide +kernel
theorem dX5_copyFrom_188 : decode cX5_copyFrom 188 = .ok (.aload_n 0, 1) := by decide +kernel
theorem dX5_copyFrom_189 : decode cX5_copyFrom 189 = .ok (.getfield 30, 3) := by decide +kernel
theorem dX5_copyFrom_192 : decode cX5_copyFrom 192 = .ok (.iconst 0, 1) := by decide +kernel
theorem dX5_copyFrom_193 : decode cX5_copyFrom 193 = .ok (.aload_n 0, 1) := by decide +kernel
theorem dX5_copyFrom_194 : decode cX5_copyFrom 194 = .ok (.getfield 46, 3) := by decide +kernel
theorem dX5_copyFrom_197 : decode cX5_copyFrom 197 = .ok (.invokestatic 70, 3) := by decide +kernel
theorem dX5_copyFrom_200 : decode cX5_copyFrom 200 = .ok (.return_, 1) := by decide +kernel
theorem dX5_addPart_0 : decode cX5_addPart 0 = .ok (.aload_n 0, 1) := by decide +kernel
theorem dX5_addPart_1 : decode cX5_addPart 1 = .ok (.getfield 67, 3) := by decide +kernel
theorem dX5_addPart_4 : decode cX5_addPart 4 = .ok (.aload_n 0, 1) := by decide +kernel
theorem dX5_addPart_5 : decode cX5_addPart 5 = .ok (.getfield 9, 3) := by decide +kernel
theorem dX5_addPart_8 : decode cX5_addPart 8 = .ok (.arraylength, 1) := by decide +kernel
theorem dX5_addPart_9 : decode cX5_addPart 9 = .ok (.if_icmp .ge 23, 3) := by decide +kernel
theorem dX5_addPart_12 : decode cX5_addPart 12 = .ok (.aload_n 0, 1) := by decide +kernel
theorem dX5_addPart_13 : decode cX5_addPart 13 = .ok (.getfield 9, 3) := by decide +kernel
theorem dX5_addPart_16 : decode cX5_addPart 16 = .ok (.aload_n 0, 1) := by decide +kernel
theorem dX5_addPart_17 : decode cX5_addPart 17 = .ok (.getfield 67, 3) := by decide +kernel
theorem dX5_addPart_20 : decode cX5_addPart 20 = .ok (.iload_n 1, 1) := by decide +kernel
theorem dX5_addPart_21 : decode cX5_addPart 21 = .ok (.iastore, 1) := by decide +kernel
theorem dX5_addPart_22 : decode cX5_addPart 22 = .ok (.aload_n 0, 1) := by decide +kernel
theorem dX5_addPart_23 : decode cX5_addPart 23 = .ok (.dup, 1) := by decide +kernel
theorem dX5_addPart_24 : decode cX5_addPart 24 = .ok (.getfield 67, 3) := by decide +kernel
theorem dX5_addPart_27 : decode cX5_addPart 27 = .ok (.iconst 1, 1) := by decide +kernel
theorem dX5_addPart_28 : decode cX5_addPart 28 = .ok (.iadd, 1) := by decide +kernel
theorem dX5_addPart_29 : decode cX5_addPart 29 = .ok (.putfield 67, 3) := by decide +kernel
theorem dX5_addPart_32 : decode cX5_addPart 32 = .ok (.return_, 1) := by decide +kernel
theorem dX5_has_0 : decode cX5_has 0 = .ok (.iload_n 1, 1) := by decide +kernel
theorem dX5_has_1 : decode cX5_has 1 = .ok (.ifCond .lt 15, 3) := by decide +kernel
theorem dX5_has_4 : decode cX5_has 4 = .ok (.iload_n 1, 1) := by decide +kernel
theorem dX5_has_5 : decode cX5_has 5 = .ok (.aload_n 0, 1) := by decide +kernel
theorem dX5_has_6 : decode cX5_has 6 = .ok (.getfield 46, 3) := by decide +kernel
theorem dX5_has_9 : decode cX5_has 9 = .ok (.if_icmp .ge 7, 3) := by decide +kernel
theorem dX5_has_12 : decode cX5_has 12 = .ok (.iconst 1, 1) := by decide +kernel
theorem dX5_has_13 : decode cX5_has 13 = .ok (.goto 4, 3) := by decide +kernel
theorem dX5_has_16 : decode cX5_has 16 = .ok (.iconst 0, 1) := by decide +kernel
theorem dX5_has_17 : decode cX5_has 17 = .ok (.ireturn, 1) := by decide +kernel
theorem dX5_number_0 : decode cX5_number 0 = .ok (.iload_n 1, 1) := by decide +kernel
theorem dX5_number_1 : decode cX5_number 1 = .ok (.tableswitch 96 0 8 #[51, 56, 61, 66, 71, 76, 81, 86, 91], 51) := by decide +kernel
theorem dX5_number_52 : decode cX5_number 52 = .ok (.aload_n 0, 1) := by decide +kernel
theorem dX5_number_53 : decode cX5_number 53 = .ok (.getfield 33, 3) := by decide +kernel
theorem dX5_number_56 : decode cX5_number 56 = .ok (.ireturn, 1) := by decide +kernel
theorem dX5_number_57 : decode cX5_number 57 = .ok (.aload_n 0, 1) := by decide +kernel
theorem dX5_number_58 : decode cX5_number 58 = .ok (.getfield 46, 3) := by decide +kernel
theorem dX5_number_61 : decode cX5_number 61 = .ok (.ireturn, 1) := by decide +kernel
theorem dX5_number_62 : decode cX5_number 62 = .ok (.aload_n 0, 1) := by decide +kernel
theorem dX5_number_63 : decode cX5_number 63 = .ok (.getfield 49, 3) := by decide +kernel
theorem dX5_number_66 : decode cX5_number 66 = .ok (.ireturn, 1) := by decide +kernel
theorem dX5_number_67 : decode cX5_number 67 = .ok (.aload_n 0, 1) := by decide +kernel
theorem dX5_number_68 : decode cX5_number 68 = .ok (.getfield 52, 3) := by decide +kernel
theorem dX5_number_71 : decode cX5_number 71 = .ok (.ireturn, 1) := by decide +kernel
theorem dX5_number_72 : decode cX5_number 72 = .ok (.aload_n 0, 1) := by decide +kernel
theorem dX5_number_73 : decode cX5_number 73 = .ok (.getfield 55, 3) := by decide +kernel
theorem dX5_number_76 : decode cX5_number 76 = .ok (.ireturn, 1) := by decide +kernel
theorem dX5_number_77 : decode cX5_number 77 = .ok (.aload_n 0, 1) := by decide +kernel
theorem dX5_number_78 : decode cX5_number 78 = .ok (.getfield 58, 3) := by decide +kernel
theorem dX5_number_81 : decode cX5_number 81 = .ok (.ireturn, 1) := by decide +kernel
theorem dX5_number_82 : decode cX5_number 82 = .ok (.aload_n 0, 1) := by decide +kernel
theorem dX5_number_83 : decode cX5_number 83 = .ok (.getfield 61, 3) := by decide +kernel
theorem dX5_number_86 : decode cX5_number 86 = .ok (.ireturn, 1) := by decide +kernel
theorem dX5_number_87 : decode cX5_number 87 = .ok (.aload_n 0, 1) := by decide +kernel
theorem dX5_number_88 : decode cX5_number 88 = .ok (.getfield 64, 3) := by decide +kernel
theorem dX5_number_91 : decode cX5_number 91 = .ok (.ireturn, 1) := by decide +kernel
theorem dX5_number_92 : decode cX5_number 92 = .ok (.aload_n 0, 1) := by decide +kernel
theorem dX5_number_93 : decode cX5_number 93 = .ok (.getfield 67, 3) := by decide +kernel
theorem dX5_number_96 : decode cX5_number 96 = .ok (.ireturn, 1) := by decide +kernel
theorem dX5_number_97 : decode cX5_number 97 = .ok (.aload_n 0, 1) := by decide +kernel
theorem dX5_number_98 : decode cX5_number 98 = .ok (.getfield 37, 3) := by decide +kernel
theorem dX5_number_101 : decode cX5_number 101 = .ok (.ireturn, 1) := by decide +kernel
theorem dX5_isBad_0 : decode cX5_isBad 0 = .ok (.aload_n 0, 1) := by decide +kernel
theorem dX5_isBad_1 : decode cX5_isBad 1 = .ok (.iload_n 1, 1) := by decide +kernel
theorem dX5_isBad_2 : decode cX5_isBad 2 = .ok (.invokevirtual 76, 3) := by decide +kernel
theorem dX5_isBad_5 : decode cX5_isBad 5 = .ok (.ifCond .eq 18, 3) := by decide +kernel
theorem dX5_isBad_8 : decode cX5_isBad 8 = .ok (.aload_n 0, 1) := by decide +kernel
theorem dX5_isBad_9 : decode cX5_isBad 9 = .ok (.getfield 18, 3) := by decide +kernel
theorem dX5_isBad_12 : decode cX5_isBad 12 = .ok (.iload_n 1, 1) := by decide +kernel
theorem dX5_isBad_13 : decode cX5_isBad 13 = .ok (.iaload, 1) := by decide +kernel
theorem dX5_isBad_14 : decode cX5_isBad 14 = .ok (.iload_n 2, 1) := by decide +kernel
theorem dX5_isBad_15 : decode cX5_isBad 15 = .ok (.iand, 1) := by decide +kernel
theorem dX5_isBad_16 : decode cX5_isBad 16 = .ok (.ifCond .eq 7, 3) := by decide +kernel
theorem dX5_isBad_19 : decode cX5_isBad 19 = .ok (.iconst 1, 1) := by decide +kernel
theorem dX5_isBad_20 : decode cX5_isBad 20 = .ok (.goto 4, 3) := by decide +kernel
theorem dX5_isBad_23 : decode cX5_isBad 23 = .ok (.iconst 0, 1) := by decide +kernel
theorem dX5_isBad_24 : decode cX5_isBad 24 = .ok (.ireturn, 1) := by decide +kernel
theorem dX5_unitsIn_0 : decode cX5_unitsIn 0 = .ok (.iconst 0, 1) := by decide +kernel
theorem dX5_unitsIn_1 : decode cX5_unitsIn 1 = .ok (.istore_n 2, 1) := by decide +kernel
theorem dX5_unitsIn_2 : decode cX5_unitsIn 2 = .ok (.iconst 0, 1) := by decide +kernel
theorem dX5_unitsIn_3 : decode cX5_unitsIn 3 = .ok (.istore_n 3, 1) := by decide +kernel
theorem dX5_unitsIn_4 : decode cX5_unitsIn 4 = .ok (.iload_n 3, 1) := by decide +kernel
theorem dX5_unitsIn_5 : decode cX5_unitsIn 5 = .ok (.aload_n 0, 1) := by decide +kernel
theorem dX5_unitsIn_6 : decode cX5_unitsIn 6 = .ok (.getfield 46, 3) := by decide +kernel
theorem dX5_unitsIn_9 : decode cX5_unitsIn 9 = .ok (.if_icmp .ge 22, 3) := by decide +kernel
theorem dX5_unitsIn_12 : decode cX5_unitsIn 12 = .ok (.aload_n 0, 1) := by decide +kernel
theorem dX5_unitsIn_13 : decode cX5_unitsIn 13 = .ok (.getfield 15, 3) := by decide +kernel
theorem dX5_unitsIn_16 : decode cX5_unitsIn 16 = .ok (.iload_n 3, 1) := by decide +kernel
theorem dX5_unitsIn_17 : decode cX5_unitsIn 17 = .ok (.iaload, 1) := by decide +kernel
theorem dX5_unitsIn_18 : decode cX5_unitsIn 18 = .ok (.iload_n 1, 1) := by decide +kernel
theorem dX5_unitsIn_19 : decode cX5_unitsIn 19 = .ok (.if_icmp .ne 6, 3) := by decide +kernel
theorem dX5_unitsIn_22 : decode cX5_unitsIn 22 = .ok (.iinc 2 1, 3) := by decide +kernel
theorem dX5_unitsIn_25 : decode cX5_unitsIn 25 = .ok (.iinc 3 1, 3) := by decide +kernel
theorem dX5_unitsIn_28 : decode cX5_unitsIn 28 = .ok (.goto (-24), 3) := by decide +kernel
theorem dX5_unitsIn_31 : decode cX5_unitsIn 31 = .ok (.iload_n 2, 1) := by decide +kernel
theorem dX5_unitsIn_32 : decode cX5_unitsIn 32 = .ok (.ireturn, 1) := by decide +kernel
theorem dX5_badUnitsIn_0 : decode cX5_badUnitsIn 0 = .ok (.iconst 0, 1) := by decide +kernel
theorem dX5_badUnitsIn_1 : decode cX5_badUnitsIn 1 = .ok (.istore_n 3, 1) := by decide +kernel
theorem dX5_badUnitsIn_2 : decode cX5_badUnitsIn 2 = .ok (.iconst 0, 1) := by decide +kernel
theorem dX5_badUnitsIn_3 : decode cX5_badUnitsIn 3 = .ok (.istore 4, 2) := by decide +kernel
theorem dX5_badUnitsIn_5 : decode cX5_badUnitsIn 5 = .ok (.iload 4, 2) := by decide +kernel
theorem dX5_badUnitsIn_7 : decode cX5_badUnitsIn 7 = .ok (.aload_n 0, 1) := by decide +kernel
theorem dX5_badUnitsIn_8 : decode cX5_badUnitsIn 8 = .ok (.getfield 46, 3) := by decide +kernel
theorem dX5_badUnitsIn_11 : decode cX5_badUnitsIn 11 = .ok (.if_icmp .ge 33, 3) := by decide +kernel
theorem dX5_badUnitsIn_14 : decode cX5_badUnitsIn 14 = .ok (.aload_n 0, 1) := by decide +kernel
theorem dX5_badUnitsIn_15 : decode cX5_badUnitsIn 15 = .ok (.getfield 15, 3) := by decide +kernel
theorem dX5_badUnitsIn_18 : decode cX5_badUnitsIn 18 = .ok (.iload 4, 2) := by decide +kernel
theorem dX5_badUnitsIn_20 : decode cX5_badUnitsIn 20 = .ok (.iaload, 1) := by decide +kernel
theorem dX5_badUnitsIn_21 : decode cX5_badUnitsIn 21 = .ok (.iload_n 1, 1) := by decide +kernel
theorem dX5_badUnitsIn_22 : decode cX5_badUnitsIn 22 = .ok (.if_icmp .ne 16, 3) := by decide +kernel
theorem dX5_badUnitsIn_25 : decode cX5_badUnitsIn 25 = .ok (.aload_n 0, 1) := by decide +kernel
theorem dX5_badUnitsIn_26 : decode cX5_badUnitsIn 26 = .ok (.iload 4, 2) := by decide +kernel
theorem dX5_badUnitsIn_28 : decode cX5_badUnitsIn 28 = .ok (.iload_n 2, 1) := by decide +kernel
theorem dX5_badUnitsIn_29 : decode cX5_badUnitsIn 29 = .ok (.invokevirtual 80, 3) := by decide +kernel
theorem dX5_badUnitsIn_32 : decode cX5_badUnitsIn 32 = .ok (.ifCond .eq 6, 3) := by decide +kernel
theorem dX5_badUnitsIn_35 : decode cX5_badUnitsIn 35 = .ok (.iinc 3 1, 3) := by decide +kernel
theorem dX5_badUnitsIn_38 : decode cX5_badUnitsIn 38 = .ok (.iinc 4 1, 3) := by decide +kernel
theorem dX5_badUnitsIn_41 : decode cX5_badUnitsIn 41 = .ok (.goto (-36), 3) := by decide +kernel
theorem dX5_badUnitsIn_44 : decode cX5_badUnitsIn 44 = .ok (.iload_n 3, 1) := by decide +kernel
theorem dX5_badUnitsIn_45 : decode cX5_badUnitsIn 45 = .ok (.ireturn, 1) := by decide +kernel
theorem dX5_workOn_0 : decode cX5_workOn 0 = .ok (.iconst 1, 1) := by decide +kernel
theorem dX5_workOn_1 : decode cX5_workOn 1 = .ok (.aload_n 2, 1) := by decide +kernel
theorem dX5_workOn_2 : decode cX5_workOn 2 = .ok (.getfield 84, 3) := by decide +kernel
theorem dX5_workOn_5 : decode cX5_workOn 5 = .ok (.ishl, 1) := by decide +kernel
theorem dX5_workOn_6 : decode cX5_workOn 6 = .ok (.istore_n 3, 1) := by decide +kernel
theorem dX5_workOn_7 : decode cX5_workOn 7 = .ok (.aload_n 2, 1) := by decide +kernel
theorem dX5_workOn_8 : decode cX5_workOn 8 = .ok (.invokevirtual 89, 3) := by decide +kernel
theorem dX5_workOn_11 : decode cX5_workOn 11 = .ok (.ifCond .eq 21, 3) := by decide +kernel
theorem dX5_workOn_14 : decode cX5_workOn 14 = .ok (.aload_n 0, 1) := by decide +kernel
theorem dX5_workOn_15 : decode cX5_workOn 15 = .ok (.iload_n 1, 1) := by decide +kernel
theorem dX5_workOn_16 : decode cX5_workOn 16 = .ok (.invokevirtual 76, 3) := by decide +kernel
theorem dX5_workOn_19 : decode cX5_workOn 19 = .ok (.ifCond .eq 13, 3) := by decide +kernel
theorem dX5_workOn_22 : decode cX5_workOn 22 = .ok (.aload_n 0, 1) := by decide +kernel
theorem dX5_workOn_23 : decode cX5_workOn 23 = .ok (.getfield 18, 3) := by decide +kernel
theorem dX5_workOn_26 : decode cX5_workOn 26 = .ok (.iload_n 1, 1) := by decide +kernel
theorem dX5_workOn_27 : decode cX5_workOn 27 = .ok (.dup2, 1) := by decide +kernel
theorem dX5_workOn_28 : decode cX5_workOn 28 = .ok (.iaload, 1) := by decide +kernel
theorem dX5_workOn_29 : decode cX5_workOn 29 = .ok (.iload_n 3, 1) := by decide +kernel
theorem dX5_workOn_30 : decode cX5_workOn 30 = .ok (.ior, 1) := by decide +kernel
theorem dX5_workOn_31 : decode cX5_workOn 31 = .ok (.iastore, 1) := by decide +kernel
theorem dX5_workOn_32 : decode cX5_workOn 32 = .ok (.return_, 1) := by decide +kernel
theorem dX5_lose_0 : decode cX5_lose 0 = .ok (.aload_n 0, 1) := by decide +kernel
theorem dX5_lose_1 : decode cX5_lose 1 = .ok (.getfield 18, 3) := by decide +kernel
theorem dX5_lose_4 : decode cX5_lose 4 = .ok (.iload_n 1, 1) := by decide +kernel
theorem dX5_lose_5 : decode cX5_lose 5 = .ok (.dup2, 1) := by decide +kernel
theorem dX5_lose_6 : decode cX5_lose 6 = .ok (.iaload, 1) := by decide +kernel
theorem dX5_lose_7 : decode cX5_lose 7 = .ok (.iload_n 2, 1) := by decide +kernel
theorem dX5_lose_8 : decode cX5_lose 8 = .ok (.iconst (-1), 1) := by decide +kernel
theorem dX5_lose_9 : decode cX5_lose 9 = .ok (.ixor, 1) := by decide +kernel
theorem dX5_lose_10 : decode cX5_lose 10 = .ok (.iand, 1) := by decide +kernel
theorem dX5_lose_11 : decode cX5_lose 11 = .ok (.iastore, 1) := by decide +kernel
theorem dX5_lose_12 : decode cX5_lose 12 = .ok (.aload_n 0, 1) := by decide +kernel
theorem dX5_lose_13 : decode cX5_lose 13 = .ok (.getfield 24, 3) := by decide +kernel
theorem dX5_lose_16 : decode cX5_lose 16 = .ok (.iload_n 1, 1) := by decide +kernel
theorem dX5_lose_17 : decode cX5_lose 17 = .ok (.dup2, 1) := by decide +kernel
theorem dX5_lose_18 : decode cX5_lose 18 = .ok (.iaload, 1) := by decide +kernel
theorem dX5_lose_19 : decode cX5_lose 19 = .ok (.iload_n 2, 1) := by decide +kernel
theorem dX5_lose_20 : decode cX5_lose 20 = .ok (.iconst (-1), 1) := by decide +kernel
theorem dX5_lose_21 : decode cX5_lose 21 = .ok (.ixor, 1) := by decide +kernel
theorem dX5_lose_22 : decode cX5_lose 22 = .ok (.iand, 1) := by decide +kernel
theorem dX5_lose_23 : decode cX5_lose 23 = .ok (.iastore, 1) := by decide +kernel
theorem dX5_lose_24 : decode cX5_lose 24 = .ok (.return_, 1) := by decide +kernel
theorem dX5_spoilByRepair_0 : decode cX5_spoilByRepair 0 = .ok (.bipush 8, 2) := by decide +kernel
theorem dX5_spoilByRepair_2 : decode cX5_spoilByRepair 2 = .ok (.istore_n 2, 1) := by decide +kernel
theorem dX5_spoilByRepair_3 : decode cX5_spoilByRepair 3 = .ok (.aload_n 0, 1) := by decide +kernel
theorem dX5_spoilByRepair_4 : decode cX5_spoilByRepair 4 = .ok (.getfield 18, 3) := by decide +kernel
theorem dX5_spoilByRepair_7 : decode cX5_spoilByRepair 7 = .ok (.iload_n 1, 1) := by decide +kernel
theorem dX5_spoilByRepair_8 : decode cX5_spoilByRepair 8 = .ok (.iaload, 1) := by decide +kernel
theorem dX5_spoilByRepair_9 : decode cX5_spoilByRepair 9 = .ok (.iload_n 2, 1) := by decide +kernel
theorem dX5_spoilByRepair_10 : decode cX5_spoilByRepair 10 = .ok (.iand, 1) := by decide +kernel
theorem dX5_spoilByRepair_11 : decode cX5_spoilByRepair 11 = .ok (.ifCond .ne 23, 3) := by decide +kernel
theorem dX5_spoilByRepair_14 : decode cX5_spoilByRepair 14 = .ok (.aload_n 0, 1) := by decide +kernel
theorem dX5_spoilByRepair_15 : decode cX5_spoilByRepair 15 = .ok (.getfield 18, 3) := by decide +kernel
theorem dX5_spoilByRepair_18 : decode cX5_spoilByRepair 18 = .ok (.iload_n 1, 1) := by decide +kernel
theorem dX5_spoilByRepair_19 : decode cX5_spoilByRepair 19 = .ok (.dup2, 1) := by decide +kernel
theorem dX5_spoilByRepair_20 : decode cX5_spoilByRepair 20 = .ok (.iaload, 1) := by decide +kernel
theorem dX5_spoilByRepair_21 : decode cX5_spoilByRepair 21 = .ok (.iload_n 2, 1) := by decide +kernel
theorem dX5_spoilByRepair_22 : decode cX5_spoilByRepair 22 = .ok (.ior, 1) := by decide +kernel
theorem dX5_spoilByRepair_23 : decode cX5_spoilByRepair 23 = .ok (.iastore, 1) := by decide +kernel
theorem dX5_spoilByRepair_24 : decode cX5_spoilByRepair 24 = .ok (.aload_n 0, 1) := by decide +kernel
theorem dX5_spoilByRepair_25 : decode cX5_spoilByRepair 25 = .ok (.getfield 24, 3) := by decide +kernel
theorem dX5_spoilByRepair_28 : decode cX5_spoilByRepair 28 = .ok (.iload_n 1, 1) := by decide +kernel
theorem dX5_spoilByRepair_29 : decode cX5_spoilByRepair 29 = .ok (.dup2, 1) := by decide +kernel
theorem dX5_spoilByRepair_30 : decode cX5_spoilByRepair 30 = .ok (.iaload, 1) := by decide +kernel
theorem dX5_spoilByRepair_31 : decode cX5_spoilByRepair 31 = .ok (.iload_n 2, 1) := by decide +kernel
theorem dX5_spoilByRepair_32 : decode cX5_spoilByRepair 32 = .ok (.ior, 1) := by decide +kernel
theorem dX5_spoilByRepair_33 : decode cX5_spoilByRepair 33 = .ok (.iastore, 1) := by decide +kernel
theorem dX5_spoilByRepair_34 : decode cX5_spoilByRepair 34 = .ok (.return_, 1) := by decide +kernel
theorem dX5_unitUsedIn_0 : decode cX5_unitUsedIn 0 = .ok (.iconst 0, 1) := by decide +kernel
theorem dX5_unitUsedIn_1 : decode cX5_unitUsedIn 1 = .ok (.istore_n 2, 1) := by decide +kernel
theorem dX5_unitUsedIn_2 : decode cX5_unitUsedIn 2 = .ok (.iload_n 2, 1) := by decide +kernel
theorem dX5_unitUsedIn_3 : decode cX5_unitUsedIn 3 = .ok (.aload_n 0, 1) := by decide +kernel
theorem dX5_unitUsedIn_4 : decode cX5_unitUsedIn 4 = .ok (.getfield 46, 3) := by decide +kernel
theorem dX5_unitUsedIn_7 : decode cX5_unitUsedIn 7 = .ok (.if_icmp .ge 21, 3) := by decide +kernel
theorem dX5_unitUsedIn_10 : decode cX5_unitUsedIn 10 = .ok (.aload_n 0, 1) := by decide +kernel
theorem dX5_unitUsedIn_11 : decode cX5_unitUsedIn 11 = .ok (.getfield 27, 3) := by decide +kernel
theorem dX5_unitUsedIn_14 : decode cX5_unitUsedIn 14 = .ok (.iload_n 2, 1) := by decide +kernel
theorem dX5_unitUsedIn_15 : decode cX5_unitUsedIn 15 = .ok (.iaload, 1) := by decide +kernel
theorem dX5_unitUsedIn_16 : decode cX5_unitUsedIn 16 = .ok (.iload_n 1, 1) := by decide +kernel
theorem dX5_unitUsedIn_17 : decode cX5_unitUsedIn 17 = .ok (.if_icmp .ne 5, 3) := by decide +kernel
theorem dX5_unitUsedIn_20 : decode cX5_unitUsedIn 20 = .ok (.iload_n 2, 1) := by decide +kernel
theorem dX5_unitUsedIn_21 : decode cX5_unitUsedIn 21 = .ok (.ireturn, 1) := by decide +kernel
theorem dX5_unitUsedIn_22 : decode cX5_unitUsedIn 22 = .ok (.iinc 2 1, 3) := by decide +kernel
theorem dX5_unitUsedIn_25 : decode cX5_unitUsedIn 25 = .ok (.goto (-23), 3) := by decide +kernel
theorem dX5_unitUsedIn_28 : decode cX5_unitUsedIn 28 = .ok (.iconst (-1), 1) := by decide +kernel
theorem dX5_unitUsedIn_29 : decode cX5_unitUsedIn 29 = .ok (.ireturn, 1) := by decide +kernel
theorem dX6_init_0 : decode cX6_init 0 = .ok (.aload_n 0, 1) := by decide +kernel
theorem dX6_init_1 : decode cX6_init 1 = .ok (.invokespecial 1, 3) := by decide +kernel
theorem dX6_init_4 : decode cX6_init 4 = .ok (.return_, 1) := by decide +kernel
theorem dX6_copyFrom_0 : decode cX6_copyFrom 0 = .ok (.aload_n 0, 1) := by decide +kernel
theorem dX6_copyFrom_1 : decode cX6_copyFrom 1 = .ok (.aload_n 1, 1) := by decide +kernel
theorem dX6_copyFrom_2 : decode cX6_copyFrom 2 = .ok (.getfield 7, 3) := by decide +kernel
theorem dX6_copyFrom_5 : decode cX6_copyFrom 5 = .ok (.putfield 7, 3) := by decide +kernel
theorem dX6_copyFrom_8 : decode cX6_copyFrom 8 = .ok (.aload_n 0, 1) := by decide +kernel
theorem dX6_copyFrom_9 : decode cX6_copyFrom 9 = .ok (.aload_n 1, 1) := by decide +kernel
theorem dX6_copyFrom_10 : decode cX6_copyFrom 10 = .ok (.getfield 13, 3) := by decide +kernel
theorem dX6_copyFrom_13 : decode cX6_copyFrom 13 = .ok (.putfield 13, 3) := by decide +kernel
theorem dX6_copyFrom_16 : decode cX6_copyFrom 16 = .ok (.aload_n 0, 1) := by decide +kernel
theorem dX6_copyFrom_17 : decode cX6_copyFrom 17 = .ok (.aload_n 1, 1) := by decide +kernel
theorem dX6_copyFrom_18 : decode cX6_copyFrom 18 = .ok (.getfield 16, 3) := by decide +kernel
theorem dX6_copyFrom_21 : decode cX6_copyFrom 21 = .ok (.putfield 16, 3) := by decide +kernel
theorem dX6_copyFrom_24 : decode cX6_copyFrom 24 = .ok (.return_, 1) := by decide +kernel
theorem dX6_spoilsNext_0 : decode cX6_spoilsNext 0 = .ok (.aload_n 0, 1) := by decide +kernel
theorem dX6_spoilsNext_1 : decode cX6_spoilsNext 1 = .ok (.dup, 1) := by decide +kernel
theorem dX6_spoilsNext_2 : decode cX6_spoilsNext 2 = .ok (.getfield 16, 3) := by decide +kernel
theorem dX6_spoilsNext_5 : decode cX6_spoilsNext 5 = .ok (.iconst 1, 1) := by decide +kernel
theorem dX6_spoilsNext_6 : decode cX6_spoilsNext 6 = .ok (.iadd, 1) := by decide +kernel
theorem dX6_spoilsNext_7 : decode cX6_spoilsNext 7 = .ok (.putfield 16, 3) := by decide +kernel
theorem dX6_spoilsNext_10 : decode cX6_spoilsNext 10 = .ok (.aload_n 0, 1) := by decide +kernel
theorem dX6_spoilsNext_11 : decode cX6_spoilsNext 11 = .ok (.getfield 7, 3) := by decide +kernel
theorem dX6_spoilsNext_14 : decode cX6_spoilsNext 14 = .ok (.ifCond .le 19, 3) := by decide +kernel
theorem dX6_spoilsNext_17 : decode cX6_spoilsNext 17 = .ok (.aload_n 0, 1) := by decide +kernel
theorem dX6_spoilsNext_18 : decode cX6_spoilsNext 18 = .ok (.getfield 16, 3) := by decide +kernel
theorem dX6_spoilsNext_21 : decode cX6_spoilsNext 21 = .ok (.aload_n 0, 1) := by decide +kernel
theorem dX6_spoilsNext_22 : decode cX6_spoilsNext 22 = .ok (.getfield 7, 3) := by decide +kernel
theorem dX6_spoilsNext_25 : decode cX6_spoilsNext 25 = .ok (.irem, 1) := by decide +kernel
theorem dX6_spoilsNext_26 : decode cX6_spoilsNext 26 = .ok (.ifCond .ne 7, 3) := by decide +kernel
theorem dX6_spoilsNext_29 : decode cX6_spoilsNext 29 = .ok (.iconst 1, 1) := by decide +kernel
theorem dX6_spoilsNext_30 : decode cX6_spoilsNext 30 = .ok (.goto 4, 3) := by decide +kernel
theorem dX6_spoilsNext_33 : decode cX6_spoilsNext 33 = .ok (.iconst 0, 1) := by decide +kernel
theorem dX6_spoilsNext_34 : decode cX6_spoilsNext 34 = .ok (.ireturn, 1) := by decide +kernel
theorem dX7_init_0 : decode cX7_init 0 = .ok (.aload_n 0, 1) := by decide +kernel
theorem dX7_init_1 : decode cX7_init 1 = .ok (.invokespecial 3, 3) := by decide +kernel
theorem dX7_init_4 : decode cX7_init 4 = .ok (.aload_n 0, 1) := by decide +kernel
theorem dX7_init_5 : decode cX7_init 5 = .ok (.bipush 6, 2) := by decide +kernel
theorem dX7_init_7 : decode cX7_init 7 = .ok (.anewarray 9, 3) := by decide +kernel
theorem dX7_init_10 : decode cX7_init 10 = .ok (.putfield 11, 3) := by decide +kernel
theorem dX7_init_13 : decode cX7_init 13 = .ok (.aload_n 0, 1) := by decide +kernel
theorem dX7_init_14 : decode cX7_init 14 = .ok (.iconst 4, 1) := by decide +kernel
theorem dX7_init_15 : decode cX7_init 15 = .ok (.anewarray 17, 3) := by decide +kernel
theorem dX7_init_18 : decode cX7_init 18 = .ok (.putfield 19, 3) := by decide +kernel
theorem dX7_init_21 : decode cX7_init 21 = .ok (.aload_n 0, 1) := by decide +kernel
theorem dX7_init_22 : decode cX7_init 22 = .ok (.bipush 24, 2) := by decide +kernel
theorem dX7_init_24 : decode cX7_init 24 = .ok (.anewarray 23, 3) := by decide +kernel
theorem dX7_init_27 : decode cX7_init 27 = .ok (.putfield 25, 3) := by decide +kernel
theorem dX7_init_30 : decode cX7_init 30 = .ok (.aload_n 0, 1) := by decide +kernel
theorem dX7_init_31 : decode cX7_init 31 = .ok (.bipush 28, 2) := by decide +kernel
theorem dX7_init_33 : decode cX7_init 33 = .ok (.newarray .int, 2) := by decide +kernel
theorem dX7_init_35 : decode cX7_init 35 = .ok (.putfield 29, 3) := by decide +kernel
theorem dX7_init_38 : decode cX7_init 38 = .ok (.aload_n 0, 1) := by decide +kernel
theorem dX7_init_39 : decode cX7_init 39 = .ok (.sipush 200, 3) := by decide +kernel
theorem dX7_init_42 : decode cX7_init 42 = .ok (.newarray .int, 2) := by decide +kernel
theorem dX7_init_44 : decode cX7_init 44 = .ok (.putfield 33, 3) := by decide +kernel
theorem dX7_init_47 : decode cX7_init 47 = .ok (.aload_n 0, 1) := by decide +kernel
theorem dX7_init_48 : decode cX7_init 48 = .ok (.iconst 1, 1) := by decide +kernel
theorem dX7_init_49 : decode cX7_init 49 = .ok (.putfield 36, 3) := by decide +kernel
theorem dX7_init_52 : decode cX7_init 52 = .ok (.iconst 0, 1) := by decide +kernel
theorem dX7_init_53 : decode cX7_init 53 = .ok (.istore_n 1, 1) := by decide +kernel
theorem dX7_init_54 : decode cX7_init 54 = .ok (.iload_n 1, 1) := by decide +kernel
theorem dX7_init_55 : decode cX7_init 55 = .ok (.aload_n 0, 1) := by decide +kernel
theorem dX7_init_56 : decode cX7_init 56 = .ok (.getfield 11, 3) := by decide +kernel
theorem dX7_init_59 : decode cX7_init 59 = .ok (.arraylength, 1) := by decide +kernel
theorem dX7_init_60 : decode cX7_init 60 = .ok (.if_icmp .ge 22, 3) := by decide +kernel
theorem dX7_init_63 : decode cX7_init 63 = .ok (.aload_n 0, 1) := by decide +kernel
theorem dX7_init_64 : decode cX7_init 64 = .ok (.getfield 11, 3) := by decide +kernel
theorem dX7_init_67 : decode cX7_init 67 = .ok (.iload_n 1, 1) := by decide +kernel
theorem dX7_init_68 : decode cX7_init 68 = .ok (.new 9, 3) := by decide +kernel
theorem dX7_init_71 : decode cX7_init 71 = .ok (.dup, 1) := by decide +kernel
theorem dX7_init_72 : decode cX7_init 72 = .ok (.invokespecial 40, 3) := by decide +kernel
theorem dX7_init_75 : decode cX7_init 75 = .ok (.aastore, 1) := by decide +kernel
theorem dX7_init_76 : decode cX7_init 76 = .ok (.iinc 1 1, 3) := by decide +kernel
theorem dX7_init_79 : decode cX7_init 79 = .ok (.goto (-25), 3) := by decide +kernel
theorem dX7_init_82 : decode cX7_init 82 = .ok (.iconst 0, 1) := by decide +kernel
theorem dX7_init_83 : decode cX7_init 83 = .ok (.istore_n 1, 1) := by decide +kernel
theorem dX7_init_84 : decode cX7_init 84 = .ok (.iload_n 1, 1) := by decide +kernel
theorem dX7_init_85 : decode cX7_init 85 = .ok (.aload_n 0, 1) := by decide +kernel
theorem dX7_init_86 : decode cX7_init 86 = .ok (.getfield 19, 3) := by decide +kernel
theorem dX7_init_89 : decode cX7_init 89 = .ok (.arraylength, 1) := by decide +kernel
theorem dX7_init_90 : decode cX7_init 90 = .ok (.if_icmp .ge 22, 3) := by decide +kernel
theorem dX7_init_93 : decode cX7_init 93 = .ok (.aload_n 0, 1) := by decide +kernel
theorem dX7_init_94 : decode cX7_init 94 = .ok (.getfield 19, 3) := by decide +kernel
theorem dX7_init_97 : decode cX7_init 97 = .ok (.iload_n 1, 1) := by decide +kernel
theorem dX7_init_98 : decode cX7_init 98 = .ok (.new 17, 3) := by decide +kernel
theorem dX7_init_101 : decode cX7_init 101 = .ok (.dup, 1) := by decide +kernel
theorem dX7_init_102 : decode cX7_init 102 = .ok (.invokespecial 41, 3) := by decide +kernel
theorem dX7_init_105 : decode cX7_init 105 = .ok (.aastore, 1) := by decide +kernel
theorem dX7_init_106 : decode cX7_init 106 = .ok (.iinc 1 1, 3) := by decide +kernel
theorem dX7_init_109 : decode cX7_init 109 = .ok (.goto (-25), 3) := by decide +kernel
theorem dX7_init_112 : decode cX7_init 112 = .ok (.return_, 1) := by decide +kernel
theorem dX7_copyFrom_0 : decode cX7_copyFrom 0 = .ok (.iconst 0, 1) := by decide +kernel
theorem dX7_copyFrom_1 : decode cX7_copyFrom 1 = .ok (.istore_n 2, 1) := by decide +kernel
theorem dX7_copyFrom_2 : decode cX7_copyFrom 2 = .ok (.iload_n 2, 1) := by decide +kernel
theorem dX7_copyFrom_3 : decode cX7_copyFrom 3 = .ok (.aload_n 0, 1) := by decide +kernel
theorem dX7_copyFrom_4 : decode cX7_copyFrom 4 = .ok (.getfield 11, 3) := by decide +kernel
theorem dX7_copyFrom_7 : decode cX7_copyFrom 7 = .ok (.arraylength, 1) := by decide +kernel
theorem dX7_copyFrom_8 : decode cX7_copyFrom 8 = .ok (.if_icmp .ge 24, 3) := by decide +kernel
theorem dX7_copyFrom_11 : decode cX7_copyFrom 11 = .ok (.aload_n 0, 1) := by decide +kernel
theorem dX7_copyFrom_12 : decode cX7_copyFrom 12 = .ok (.getfield 11, 3) := by decide +kernel
theorem dX7_copyFrom_15 : decode cX7_copyFrom 15 = .ok (.iload_n 2, 1) := by decide +kernel
theorem dX7_copyFrom_16 : decode cX7_copyFrom 16 = .ok (.aaload, 1) := by decide +kernel
theorem dX7_copyFrom_17 : decode cX7_copyFrom 17 = .ok (.aload_n 1, 1) := by decide +kernel
theorem dX7_copyFrom_18 : decode cX7_copyFrom 18 = .ok (.getfield 11, 3) := by decide +kernel
theorem dX7_copyFrom_21 : decode cX7_copyFrom 21 = .ok (.iload_n 2, 1) := by decide +kernel
theorem dX7_copyFrom_22 : decode cX7_copyFrom 22 = .ok (.aaload, 1) := by decide +kernel
theorem dX7_copyFrom_23 : decode cX7_copyFrom 23 = .ok (.invokevirtual 42, 3) := by decide +kernel
theorem dX7_copyFrom_26 : decode cX7_copyFrom 26 = .ok (.iinc 2 1, 3) := by decide +kernel
theorem dX7_copyFrom_29 : decode cX7_copyFrom 29 = .ok (.goto (-27), 3) := by decide +kernel
theorem dX7_copyFrom_32 : decode cX7_copyFrom 32 = .ok (.iconst 0, 1) := by decide +kernel
theorem dX7_copyFrom_33 : decode cX7_copyFrom 33 = .ok (.istore_n 2, 1) := by decide +kernel
theorem dX7_copyFrom_34 : decode cX7_copyFrom 34 = .ok (.iload_n 2, 1) := by decide +kernel
theorem dX7_copyFrom_35 : decode cX7_copyFrom 35 = .ok (.aload_n 0, 1) := by decide +kernel
theorem dX7_copyFrom_36 : decode cX7_copyFrom 36 = .ok (.getfield 19, 3) := by decide +kernel
theorem dX7_copyFrom_39 : decode cX7_copyFrom 39 = .ok (.arraylength, 1) := by decide +kernel
theorem dX7_copyFrom_40 : decode cX7_copyFrom 40 = .ok (.if_icmp .ge 24, 3) := by decide +kernel
theorem dX7_copyFrom_43 : decode cX7_copyFrom 43 = .ok (.aload_n 0, 1) := by decide +kernel
theorem dX7_copyFrom_44 : decode cX7_copyFrom 44 = .ok (.getfield 19, 3) := by decide +kernel
theorem dX7_copyFrom_47 : decode cX7_copyFrom 47 = .ok (.iload_n 2, 1) := by decide +kernel
theorem dX7_copyFrom_48 : decode cX7_copyFrom 48 = .ok (.aaload, 1) := by decide +kernel
theorem dX7_copyFrom_49 : decode cX7_copyFrom 49 = .ok (.aload_n 1, 1) := by decide +kernel
theorem dX7_copyFrom_50 : decode cX7_copyFrom 50 = .ok (.getfield 19, 3) := by decide +kernel
theorem dX7_copyFrom_53 : decode cX7_copyFrom 53 = .ok (.iload_n 2, 1) := by decide +kernel
theorem dX7_copyFrom_54 : decode cX7_copyFrom 54 = .ok (.aaload, 1) := by decide +kernel
theorem dX7_copyFrom_55 : decode cX7_copyFrom 55 = .ok (.invokevirtual 46, 3) := by decide +kernel
theorem dX7_copyFrom_58 : decode cX7_copyFrom 58 = .ok (.iinc 2 1, 3) := by decide +kernel
theorem dX7_copyFrom_61 : decode cX7_copyFrom 61 = .ok (.goto (-27), 3) := by decide +kernel
theorem dX7_copyFrom_64 : decode cX7_copyFrom 64 = .ok (.iconst 0, 1) := by decide +kernel
theorem dX7_copyFrom_65 : decode cX7_copyFrom 65 = .ok (.istore_n 2, 1) := by decide +kernel
theorem dX7_copyFrom_66 : decode cX7_copyFrom 66 = .ok (.iload_n 2, 1) := by decide +kernel
theorem dX7_copyFrom_67 : decode cX7_copyFrom 67 = .ok (.aload_n 1, 1) := by decide +kernel
theorem dX7_copyFrom_68 : decode cX7_copyFrom 68 = .ok (.getfield 49, 3) := by decide +kernel
theorem dX7_copyFrom_71 : decode cX7_copyFrom 71 = .ok (.if_icmp .ge 38, 3) := by decide +kernel
theorem dX7_copyFrom_74 : decode cX7_copyFrom 74 = .ok (.iload_n 2, 1) := by decide +kernel
theorem dX7_copyFrom_75 : decode cX7_copyFrom 75 = .ok (.aload_n 0, 1) := by decide +kernel
theorem dX7_copyFrom_76 : decode cX7_copyFrom 76 = .ok (.getfield 25, 3) := by decide +kernel
theorem dX7_copyFrom_79 : decode cX7_copyFrom 79 = .ok (.arraylength, 1) := by decide +kernel
theorem dX7_copyFrom_80 : decode cX7_copyFrom 80 = .ok (.if_icmp .ge 29, 3) := by decide +kernel
theorem dX7_copyFrom_83 : decode cX7_copyFrom 83 = .ok (.aload_n 1, 1) := by decide +kernel
theorem dX7_copyFrom_84 : decode cX7_copyFrom 84 = .ok (.getfield 25, 3) := by decide +kernel
theorem dX7_copyFrom_87 : decode cX7_copyFrom 87 = .ok (.iload_n 2, 1) := by decide +kernel
theorem dX7_copyFrom_88 : decode cX7_copyFrom 88 = .ok (.aaload, 1) := by decide +kernel
theorem dX7_copyFrom_89 : decode cX7_copyFrom 89 = .ok (.astore_n 3, 1) := by decide +kernel
theorem dX7_copyFrom_90 : decode cX7_copyFrom 90 = .ok (.aload_n 3, 1) := by decide +kernel
theorem dX7_copyFrom_91 : decode cX7_copyFrom 91 = .ok (.ifnull 12, 3) := by decide +kernel
theorem dX7_copyFrom_94 : decode cX7_copyFrom 94 = .ok (.aload_n 0, 1) := by decide +kernel
theorem dX7_copyFrom_95 : decode cX7_copyFrom 95 = .ok (.iload_n 2, 1) := by decide +kernel
theorem dX7_copyFrom_96 : decode cX7_copyFrom 96 = .ok (.invokevirtual 52, 3) := by decide +kernel
theorem dX7_copyFrom_99 : decode cX7_copyFrom 99 = .ok (.aload_n 3, 1) := by decide +kernel
theorem dX7_copyFrom_100 : decode cX7_copyFrom 100 = .ok (.invokevirtual 56, 3) := by decide +kernel
theorem dX7_copyFrom_103 : decode cX7_copyFrom 103 = .ok (.iinc 2 1, 3) := by decide +kernel
theorem dX7_copyFrom_106 : decode cX7_copyFrom 106 = .ok (.goto (-40), 3) := by decide +kernel
theorem dX7_copyFrom_109 : decode cX7_copyFrom 109 = .ok (.aload_n 1, 1) := by decide +kernel
theorem dX7_copyFrom_110 : decode cX7_copyFrom 110 = .ok (.getfield 29, 3) := by decide +kernel
theorem dX7_copyFrom_113 : decode cX7_copyFrom 113 = .ok (.iconst 0, 1) := by decide +kernel
theorem dX7_copyFrom_114 : decode cX7_copyFrom 114 = .ok (.aload_n 0, 1) := by decide +kernel
theorem dX7_copyFrom_115 : decode cX7_copyFrom 115 = .ok (.getfield 29, 3) := by decide +kernel
theorem dX7_copyFrom_118 : decode cX7_copyFrom 118 = .ok (.iconst 0, 1) := by decide +kernel
theorem dX7_copyFrom_119 : decode cX7_copyFrom 119 = .ok (.aload_n 0, 1) := by decide +kernel
theorem dX7_copyFrom_120 : decode cX7_copyFrom 120 = .ok (.getfield 29, 3) := by decide +kernel
theorem dX7_copyFrom_123 : decode cX7_copyFrom 123 = .ok (.arraylength, 1) := by decide +kernel
theorem dX7_copyFrom_124 : decode cX7_copyFrom 124 = .ok (.invokestatic 59, 3) := by decide +kernel
theorem dX7_copyFrom_127 : decode cX7_copyFrom 127 = .ok (.aload_n 0, 1) := by decide +kernel
theorem dX7_copyFrom_128 : decode cX7_copyFrom 128 = .ok (.aload_n 1, 1) := by decide +kernel
theorem dX7_copyFrom_129 : decode cX7_copyFrom 129 = .ok (.getfield 49, 3) := by decide +kernel
theorem dX7_copyFrom_132 : decode cX7_copyFrom 132 = .ok (.putfield 49, 3) := by decide +kernel
theorem dX7_copyFrom_135 : decode cX7_copyFrom 135 = .ok (.aload_n 0, 1) := by decide +kernel
theorem dX7_copyFrom_136 : decode cX7_copyFrom 136 = .ok (.aload_n 1, 1) := by decide +kernel
theorem dX7_copyFrom_137 : decode cX7_copyFrom 137 = .ok (.getfield 65, 3) := by decide +kernel
theorem dX7_copyFrom_140 : decode cX7_copyFrom 140 = .ok (.putfield 65, 3) := by decide +kernel
theorem dX7_copyFrom_143 : decode cX7_copyFrom 143 = .ok (.aload_n 0, 1) := by decide +kernel
theorem dX7_copyFrom_144 : decode cX7_copyFrom 144 = .ok (.aload_n 1, 1) := by decide +kernel
theorem dX7_copyFrom_145 : decode cX7_copyFrom 145 = .ok (.getfield 68, 3) := by decide +kernel
theorem dX7_copyFrom_148 : decode cX7_copyFrom 148 = .ok (.putfield 68, 3) := by decide +kernel
theorem dX7_copyFrom_151 : decode cX7_copyFrom 151 = .ok (.aload_n 0, 1) := by decide +kernel
theorem dX7_copyFrom_152 : decode cX7_copyFrom 152 = .ok (.aload_n 1, 1) := by decide +kernel
theorem dX7_copyFrom_153 : decode cX7_copyFrom 153 = .ok (.getfield 36, 3) := by decide +kernel
theorem dX7_copyFrom_156 : decode cX7_copyFrom 156 = .ok (.putfield 36, 3) := by decide +kernel
theorem dX7_copyFrom_159 : decode cX7_copyFrom 159 = .ok (.return_, 1) := by decide +kernel
theorem dX7_slot_0 : decode cX7_slot 0 = .ok (.aload_n 0, 1) := by decide +kernel
theorem dX7_slot_1 : decode cX7_slot 1 = .ok (.getfield 25, 3) := by decide +kernel
theorem dX7_slot_4 : decode cX7_slot 4 = .ok (.iload_n 1, 1) := by decide +kernel
theorem dX7_slot_5 : decode cX7_slot 5 = .ok (.aaload, 1) := by decide +kernel
theorem dX7_slot_6 : decode cX7_slot 6 = .ok (.astore_n 2, 1) := by decide +kernel
theorem dX7_slot_7 : decode cX7_slot 7 = .ok (.aload_n 2, 1) := by decide +kernel
theorem dX7_slot_8 : decode cX7_slot 8 = .ok (.ifnonnull 18, 3) := by decide +kernel
theorem dX7_slot_11 : decode cX7_slot 11 = .ok (.new 23, 3) := by decide +kernel
theorem dX7_slot_14 : decode cX7_slot 14 = .ok (.dup, 1) := by decide +kernel
theorem dX7_slot_15 : decode cX7_slot 15 = .ok (.invokespecial 71, 3) := by decide +kernel
theorem dX7_slot_18 : decode cX7_slot 18 = .ok (.astore_n 2, 1) := by decide +kernel
theorem dX7_slot_19 : decode cX7_slot 19 = .ok (.aload_n 0, 1) := by decide +kernel
theorem dX7_slot_20 : decode cX7_slot 20 = .ok (.getfield 25, 3) := by decide +kernel
theorem dX7_slot_23 : decode cX7_slot 23 = .ok (.iload_n 1, 1) := by decide +kernel
theorem dX7_slot_24 : decode cX7_slot 24 = .ok (.aload_n 2, 1) := by decide +kernel
theorem dX7_slot_25 : decode cX7_slot 25 = .ok (.aastore, 1) := by decide +kernel
theorem dX7_slot_26 : decode cX7_slot 26 = .ok (.aload_n 2, 1) := by decide +kernel
theorem dX7_slot_27 : decode cX7_slot 27 = .ok (.areturn, 1) := by decide +kernel
theorem dX7_machineAt_0 : decode cX7_machineAt 0 = .ok (.iload_n 1, 1) := by decide +kernel
theorem dX7_machineAt_1 : decode cX7_machineAt 1 = .ok (.ifCond .lt 21, 3) := by decide +kernel
theorem dX7_machineAt_4 : decode cX7_machineAt 4 = .ok (.iload_n 1, 1) := by decide +kernel
theorem dX7_machineAt_5 : decode cX7_machineAt 5 = .ok (.aload_n 0, 1) := by decide +kernel
theorem dX7_machineAt_6 : decode cX7_machineAt 6 = .ok (.getfield 11, 3) := by decide +kernel
theorem dX7_machineAt_9 : decode cX7_machineAt 9 = .ok (.arraylength, 1) := by decide +kernel
theorem dX7_machineAt_10 : decode cX7_machineAt 10 = .ok (.if_icmp .ge 12, 3) := by decide +kernel
theorem dX7_machineAt_13 : decode cX7_machineAt 13 = .ok (.aload_n 0, 1) := by decide +kernel
theorem dX7_machineAt_14 : decode cX7_machineAt 14 = .ok (.getfield 11, 3) := by decide +kernel
theorem dX7_machineAt_17 : decode cX7_machineAt 17 = .ok (.iload_n 1, 1) := by decide +kernel
theorem dX7_machineAt_18 : decode cX7_machineAt 18 = .ok (.aaload, 1) := by decide +kernel
theorem dX7_machineAt_19 : decode cX7_machineAt 19 = .ok (.goto 4, 3) := by decide +kernel
theorem dX7_machineAt_22 : decode cX7_machineAt 22 = .ok (.aconst_null, 1) := by decide +kernel
theorem dX7_machineAt_23 : decode cX7_machineAt 23 = .ok (.areturn, 1) := by decide +kernel
theorem dX7_productAt_0 : decode cX7_productAt 0 = .ok (.iload_n 1, 1) := by decide +kernel
theorem dX7_productAt_1 : decode cX7_productAt 1 = .ok (.ifCond .lt 21, 3) := by decide +kernel
theorem dX7_productAt_4 : decode cX7_productAt 4 = .ok (.iload_n 1, 1) := by decide +kernel
theorem dX7_productAt_5 : decode cX7_productAt 5 = .ok (.aload_n 0, 1) := by decide +kernel
theorem dX7_productAt_6 : decode cX7_productAt 6 = .ok (.getfield 19, 3) := by decide +kernel
theorem dX7_productAt_9 : decode cX7_productAt 9 = .ok (.arraylength, 1) := by decide +kernel
theorem dX7_productAt_10 : decode cX7_productAt 10 = .ok (.if_icmp .ge 12, 3) := by decide +kernel
theorem dX7_productAt_13 : decode cX7_productAt 13 = .ok (.aload_n 0, 1) := by decide +kernel
theorem dX7_productAt_14 : decode cX7_productAt 14 = .ok (.getfield 19, 3) := by decide +kernel
theorem dX7_productAt_17 : decode cX7_productAt 17 = .ok (.iload_n 1, 1) := by decide +kernel
theorem dX7_productAt_18 : decode cX7_productAt 18 = .ok (.aaload, 1) := by decide +kernel
theorem dX7_productAt_19 : decode cX7_productAt 19 = .ok (.goto 4, 3) := by decide +kernel
theorem dX7_productAt_22 : decode cX7_productAt 22 = .ok (.aconst_null, 1) := by decide +kernel
theorem dX7_productAt_23 : decode cX7_productAt 23 = .ok (.areturn, 1) := by decide +kernel
theorem dX7_lotAt_0 : decode cX7_lotAt 0 = .ok (.iload_n 1, 1) := by decide +kernel
theorem dX7_lotAt_1 : decode cX7_lotAt 1 = .ok (.ifCond .lt 29, 3) := by decide +kernel
theorem dX7_lotAt_4 : decode cX7_lotAt 4 = .ok (.iload_n 1, 1) := by decide +kernel
theorem dX7_lotAt_5 : decode cX7_lotAt 5 = .ok (.aload_n 0, 1) := by decide +kernel
theorem dX7_lotAt_6 : decode cX7_lotAt 6 = .ok (.getfield 49, 3) := by decide +kernel
theorem dX7_lotAt_9 : decode cX7_lotAt 9 = .ok (.if_icmp .ge 21, 3) := by decide +kernel
theorem dX7_lotAt_12 : decode cX7_lotAt 12 = .ok (.iload_n 1, 1) := by decide +kernel
theorem dX7_lotAt_13 : decode cX7_lotAt 13 = .ok (.aload_n 0, 1) := by decide +kernel
theorem dX7_lotAt_14 : decode cX7_lotAt 14 = .ok (.getfield 25, 3) := by decide +kernel
theorem dX7_lotAt_17 : decode cX7_lotAt 17 = .ok (.arraylength, 1) := by decide +kernel
theorem dX7_lotAt_18 : decode cX7_lotAt 18 = .ok (.if_icmp .ge 12, 3) := by decide +kernel
theorem dX7_lotAt_21 : decode cX7_lotAt 21 = .ok (.aload_n 0, 1) := by decide +kernel
theorem dX7_lotAt_22 : decode cX7_lotAt 22 = .ok (.getfield 25, 3) := by decide +kernel
theorem dX7_lotAt_25 : decode cX7_lotAt 25 = .ok (.iload_n 1, 1) := by decide +kernel
theorem dX7_lotAt_26 : decode cX7_lotAt 26 = .ok (.aaload, 1) := by decide +kernel
theorem dX7_lotAt_27 : decode cX7_lotAt 27 = .ok (.goto 4, 3) := by decide +kernel
theorem dX7_lotAt_30 : decode cX7_lotAt 30 = .ok (.aconst_null, 1) := by decide +kernel
theorem dX7_lotAt_31 : decode cX7_lotAt 31 = .ok (.areturn, 1) := by decide +kernel
theorem dX7_inspectedOf_0 : decode cX7_inspectedOf 0 = .ok (.aload_n 0, 1) := by decide +kernel
theorem dX7_inspectedOf_1 : decode cX7_inspectedOf 1 = .ok (.aload_n 1, 1) := by decide +kernel
theorem dX7_inspectedOf_2 : decode cX7_inspectedOf 2 = .ok (.getfield 72, 3) := by decide +kernel
theorem dX7_inspectedOf_5 : decode cX7_inspectedOf 5 = .ok (.invokevirtual 75, 3) := by decide +kernel
theorem dX7_inspectedOf_8 : decode cX7_inspectedOf 8 = .ok (.astore_n 2, 1) := by decide +kernel
theorem dX7_inspectedOf_9 : decode cX7_inspectedOf 9 = .ok (.aload_n 2, 1) := by decide +kernel
theorem dX7_inspectedOf_10 : decode cX7_inspectedOf 10 = .ok (.ifnonnull 7, 3) := by decide +kernel
theorem dX7_inspectedOf_13 : decode cX7_inspectedOf 13 = .ok (.iconst 0, 1) := by decide +kernel
theorem dX7_inspectedOf_14 : decode cX7_inspectedOf 14 = .ok (.goto 7, 3) := by decide +kernel
theorem dX7_inspectedOf_17 : decode cX7_inspectedOf 17 = .ok (.aload_n 2, 1) := by decide +kernel
theorem dX7_inspectedOf_18 : decode cX7_inspectedOf 18 = .ok (.getfield 79, 3) := by decide +kernel
theorem dX7_inspectedOf_21 : decode cX7_inspectedOf 21 = .ok (.ireturn, 1) := by decide +kernel
theorem dX7_setMachine_0 : decode cX7_setMachine 0 = .ok (.aload_n 0, 1) := by decide +kernel
theorem dX7_setMachine_1 : decode cX7_setMachine 1 = .ok (.iload_n 1, 1) := by decide +kernel
theorem dX7_setMachine_2 : decode cX7_setMachine 2 = .ok (.invokevirtual 82, 3) := by decide +kernel
theorem dX7_setMachine_5 : decode cX7_setMachine 5 = .ok (.astore 4, 2) := by decide +kernel
theorem dX7_setMachine_7 : decode cX7_setMachine 7 = .ok (.aload 4, 2) := by decide +kernel
theorem dX7_setMachine_9 : decode cX7_setMachine 9 = .ok (.ifnonnull 5, 3) := by decide +kernel
theorem dX7_setMachine_12 : decode cX7_setMachine 12 = .ok (.iconst (-1), 1) := by decide +kernel
theorem dX7_setMachine_13 : decode cX7_setMachine 13 = .ok (.ireturn, 1) := by decide +kernel
theorem dX7_setMachine_14 : decode cX7_setMachine 14 = .ok (.iload_n 2, 1) := by decide +kernel
theorem dX7_setMachine_15 : decode cX7_setMachine 15 = .ok (.ifCond .lt 18, 3) := by decide +kernel
theorem dX7_setMachine_18 : decode cX7_setMachine 18 = .ok (.iload_n 2, 1) := by decide +kernel
theorem dX7_setMachine_19 : decode cX7_setMachine 19 = .ok (.bipush 50, 2) := by decide +kernel
theorem dX7_setMachine_21 : decode cX7_setMachine 21 = .ok (.if_icmp .gt 12, 3) := by decide +kernel
theorem dX7_setMachine_24 : decode cX7_setMachine 24 = .ok (.iload_n 3, 1) := by decide +kernel
theorem dX7_setMachine_25 : decode cX7_setMachine 25 = .ok (.ifCond .lt 8, 3) := by decide +kernel
theorem dX7_setMachine_28 : decode cX7_setMachine 28 = .ok (.iload_n 3, 1) := by decide +kernel
theorem dX7_setMachine_29 : decode cX7_setMachine 29 = .ok (.iconst 4, 1) := by decide +kernel
theorem dX7_setMachine_30 : decode cX7_setMachine 30 = .ok (.if_icmp .lt 6, 3) := by decide +kernel
theorem dX7_setMachine_33 : decode cX7_setMachine 33 = .ok (.bipush (-2), 2) := by decide +kernel
theorem dX7_setMachine_35 : decode cX7_setMachine 35 = .ok (.ireturn, 1) := by decide +kernel
theorem dX7_setMachine_36 : decode cX7_setMachine 36 = .ok (.bipush 10, 2) := by decide +kernel
theorem dX7_setMachine_38 : decode cX7_setMachine 38 = .ok (.aload 4, 2) := by decide +kernel
theorem dX7_setMachine_40 : decode cX7_setMachine 40 = .ok (.getfield 86, 3) := by decide +kernel
theorem dX7_setMachine_43 : decode cX7_setMachine 43 = .ok (.imul, 1) := by decide +kernel
theorem dX7_setMachine_44 : decode cX7_setMachine 44 = .ok (.aload 4, 2) := by decide +kernel
theorem dX7_setMachine_46 : decode cX7_setMachine 46 = .ok (.getfield 89, 3) := by decide +kernel
theorem dX7_setMachine_49 : decode cX7_setMachine 49 = .ok (.iadd, 1) := by decide +kernel
theorem dX7_setMachine_50 : decode cX7_setMachine 50 = .ok (.istore 5, 2) := by decide +kernel
theorem dX7_setMachine_52 : decode cX7_setMachine 52 = .ok (.aload 4, 2) := by decide +kernel
theorem dX7_setMachine_54 : decode cX7_setMachine 54 = .ok (.iload_n 2, 1) := by decide +kernel
theorem dX7_setMachine_55 : decode cX7_setMachine 55 = .ok (.putfield 86, 3) := by decide +kernel
theorem dX7_setMachine_58 : decode cX7_setMachine 58 = .ok (.aload 4, 2) := by decide +kernel
theorem dX7_setMachine_60 : decode cX7_setMachine 60 = .ok (.iload_n 3, 1) := by decide +kernel
theorem dX7_setMachine_61 : decode cX7_setMachine 61 = .ok (.putfield 89, 3) := by decide +kernel
theorem dX7_setMachine_64 : decode cX7_setMachine 64 = .ok (.iload 5, 2) := by decide +kernel
theorem dX7_setMachine_66 : decode cX7_setMachine 66 = .ok (.ireturn, 1) := by decide +kernel
theorem dX7_setProduct_0 : decode cX7_setProduct 0 = .ok (.aload_n 0, 1) := by decide +kernel
theorem dX7_setProduct_1 : decode cX7_setProduct 1 = .ok (.iload_n 1, 1) := by decide +kernel
theorem dX7_setProduct_2 : decode cX7_setProduct 2 = .ok (.invokevirtual 75, 3) := by decide +kernel
theorem dX7_setProduct_5 : decode cX7_setProduct 5 = .ok (.astore 5, 2) := by decide +kernel
theorem dX7_setProduct_7 : decode cX7_setProduct 7 = .ok (.aload 5, 2) := by decide +kernel
theorem dX7_setProduct_9 : decode cX7_setProduct 9 = .ok (.ifnonnull 5, 3) := by decide +kernel
theorem dX7_setProduct_12 : decode cX7_setProduct 12 = .ok (.iconst (-1), 1) := by decide +kernel
theorem dX7_setProduct_13 : decode cX7_setProduct 13 = .ok (.ireturn, 1) := by decide +kernel
theorem dX7_setProduct_14 : decode cX7_setProduct 14 = .ok (.iload_n 2, 1) := by decide +kernel
theorem dX7_setProduct_15 : decode cX7_setProduct 15 = .ok (.ifCond .lt 31, 3) := by decide +kernel
theorem dX7_setProduct_18 : decode cX7_setProduct 18 = .ok (.iload_n 2, 1) := by decide +kernel
theorem dX7_setProduct_19 : decode cX7_setProduct 19 = .ok (.bipush 30, 2) := by decide +kernel
theorem dX7_setProduct_21 : decode cX7_setProduct 21 = .ok (.if_icmp .gt 25, 3) := by decide +kernel
theorem dX7_setProduct_24 : decode cX7_setProduct 24 = .ok (.iload_n 3, 1) := by decide +kernel
theorem dX7_setProduct_25 : decode cX7_setProduct 25 = .ok (.ifCond .lt 21, 3) := by decide +kernel
theorem dX7_setProduct_28 : decode cX7_setProduct 28 = .ok (.iload_n 3, 1) := by decide +kernel
theorem dX7_setProduct_29 : decode cX7_setProduct 29 = .ok (.bipush 15, 2) := by decide +kernel
theorem dX7_setProduct_31 : decode cX7_setProduct 31 = .ok (.if_icmp .gt 15, 3) := by decide +kernel
theorem dX7_setProduct_34 : decode cX7_setProduct 34 = .ok (.iload 4, 2) := by decide +kernel
theorem dX7_setProduct_36 : decode cX7_setProduct 36 = .ok (.ifCond .lt 10, 3) := by decide +kernel
theorem dX7_setProduct_39 : decode cX7_setProduct 39 = .ok (.iload 4, 2) := by decide +kernel
theorem dX7_setProduct_41 : decode cX7_setProduct 41 = .ok (.bipush 15, 2) := by decide +kernel
theorem dX7_setProduct_43 : decode cX7_setProduct 43 = .ok (.if_icmp .le 6, 3) := by decide +kernel
theorem dX7_setProduct_46 : decode cX7_setProduct 46 = .ok (.bipush (-2), 2) := by decide +kernel
theorem dX7_setProduct_48 : decode cX7_setProduct 48 = .ok (.ireturn, 1) := by decide +kernel
theorem dX7_setProduct_49 : decode cX7_setProduct 49 = .ok (.aload 5, 2) := by decide +kernel
theorem dX7_setProduct_51 : decode cX7_setProduct 51 = .ok (.getfield 92, 3) := by decide +kernel
theorem dX7_setProduct_54 : decode cX7_setProduct 54 = .ok (.istore 6, 2) := by decide +kernel
theorem dX7_setProduct_56 : decode cX7_setProduct 56 = .ok (.aload 5, 2) := by decide +kernel
theorem dX7_setProduct_58 : decode cX7_setProduct 58 = .ok (.iload_n 2, 1) := by decide +kernel
theorem dX7_setProduct_59 : decode cX7_setProduct 59 = .ok (.putfield 92, 3) := by decide +kernel
theorem dX7_setProduct_62 : decode cX7_setProduct 62 = .ok (.aload 5, 2) := by decide +kernel
theorem dX7_setProduct_64 : decode cX7_setProduct 64 = .ok (.iload_n 3, 1) := by decide +kernel
theorem dX7_setProduct_65 : decode cX7_setProduct 65 = .ok (.putfield 79, 3) := by decide +kernel
theorem dX7_setProduct_68 : decode cX7_setProduct 68 = .ok (.aload 5, 2) := by decide +kernel
theorem dX7_setProduct_70 : decode cX7_setProduct 70 = .ok (.iload 4, 2) := by decide +kernel
theorem dX7_setProduct_72 : decode cX7_setProduct 72 = .ok (.putfield 95, 3) := by decide +kernel
theorem dX7_setProduct_75 : decode cX7_setProduct 75 = .ok (.iload 6, 2) := by decide +kernel
theorem dX7_setProduct_77 : decode cX7_setProduct 77 = .ok (.ireturn, 1) := by decide +kernel
theorem dX7_releaseProduct_0 : decode cX7_releaseProduct 0 = .ok (.aload_n 0, 1) := by decide +kernel
theorem dX7_releaseProduct_1 : decode cX7_releaseProduct 1 = .ok (.iload_n 1, 1) := by decide +kernel
theorem dX7_releaseProduct_2 : decode cX7_releaseProduct 2 = .ok (.invokevirtual 75, 3) := by decide +kernel
theorem dX7_releaseProduct_5 : decode cX7_releaseProduct 5 = .ok (.astore_n 2, 1) := by decide +kernel
theorem dX7_releaseProduct_6 : decode cX7_releaseProduct 6 = .ok (.aload_n 2, 1) := by decide +kernel
theorem dX7_releaseProduct_7 : decode cX7_releaseProduct 7 = .ok (.ifnonnull 5, 3) := by decide +kernel
theorem dX7_releaseProduct_10 : decode cX7_releaseProduct 10 = .ok (.iconst (-1), 1) := by decide +kernel
theorem dX7_releaseProduct_11 : decode cX7_releaseProduct 11 = .ok (.ireturn, 1) := by decide +kernel
theorem dX7_releaseProduct_12 : decode cX7_releaseProduct 12 = .ok (.aload_n 2, 1) := by decide +kernel
theorem dX7_releaseProduct_13 : decode cX7_releaseProduct 13 = .ok (.getfield 98, 3) := by decide +kernel
theorem dX7_releaseProduct_16 : decode cX7_releaseProduct 16 = .ok (.iconst 3, 1) := by decide +kernel
theorem dX7_releaseProduct_17 : decode cX7_releaseProduct 17 = .ok (.if_icmp .eq 6, 3) := by decide +kernel
theorem dX7_releaseProduct_20 : decode cX7_releaseProduct 20 = .ok (.bipush (-3), 2) := by decide +kernel
theorem dX7_releaseProduct_22 : decode cX7_releaseProduct 22 = .ok (.ireturn, 1) := by decide +kernel
theorem dX7_releaseProduct_23 : decode cX7_releaseProduct 23 = .ok (.aload_n 2, 1) := by decide +kernel
theorem dX7_releaseProduct_24 : decode cX7_releaseProduct 24 = .ok (.iconst 1, 1) := by decide +kernel
theorem dX7_releaseProduct_25 : decode cX7_releaseProduct 25 = .ok (.invokevirtual 101, 3) := by decide +kernel
theorem dX7_releaseProduct_28 : decode cX7_releaseProduct 28 = .ok (.iconst 0, 1) := by decide +kernel
theorem dX7_releaseProduct_29 : decode cX7_releaseProduct 29 = .ok (.istore_n 3, 1) := by decide +kernel
theorem dX7_releaseProduct_30 : decode cX7_releaseProduct 30 = .ok (.iconst 0, 1) := by decide +kernel
theorem dX7_releaseProduct_31 : decode cX7_releaseProduct 31 = .ok (.istore 4, 2) := by decide +kernel
theorem dX7_releaseProduct_33 : decode cX7_releaseProduct 33 = .ok (.iload 4, 2) := by decide +kernel
theorem dX7_releaseProduct_35 : decode cX7_releaseProduct 35 = .ok (.aload_n 0, 1) := by decide +kernel
theorem dX7_releaseProduct_36 : decode cX7_releaseProduct 36 = .ok (.getfield 49, 3) := by decide +kernel
theorem dX7_releaseProduct_39 : decode cX7_releaseProduct 39 = .ok (.if_icmp .ge 42, 3) := by decide +kernel
theorem dX7_releaseProduct_42 : decode cX7_releaseProduct 42 = .ok (.aload_n 0, 1) := by decide +kernel
theorem dX7_releaseProduct_43 : decode cX7_releaseProduct 43 = .ok (.iload 4, 2) := by decide +kernel
theorem dX7_releaseProduct_45 : decode cX7_releaseProduct 45 = .ok (.invokevirtual 105, 3) := by decide +kernel
theorem dX7_releaseProduct_48 : decode cX7_releaseProduct 48 = .ok (.astore 5, 2) := by decide +kernel
theorem dX7_releaseProduct_50 : decode cX7_releaseProduct 50 = .ok (.aload 5, 2) := by decide +kernel
theorem dX7_releaseProduct_52 : decode cX7_releaseProduct 52 = .ok (.ifnull 23, 3) := by decide +kernel
theorem dX7_releaseProduct_55 : decode cX7_releaseProduct 55 = .ok (.aload 5, 2) := by decide +kernel
theorem dX7_releaseProduct_57 : decode cX7_releaseProduct 57 = .ok (.getfield 72, 3) := by decide +kernel
theorem dX7_releaseProduct_60 : decode cX7_releaseProduct 60 = .ok (.iload_n 1, 1) := by decide +kernel
theorem dX7_releaseProduct_61 : decode cX7_releaseProduct 61 = .ok (.if_icmp .ne 14, 3) := by decide +kernel
theorem dX7_releaseProduct_64 : decode cX7_releaseProduct 64 = .ok (.aload 5, 2) := by decide +kernel
theorem dX7_releaseProduct_66 : decode cX7_releaseProduct 66 = .ok (.getfield 108, 3) := by decide +kernel
theorem dX7_releaseProduct_69 : decode cX7_releaseProduct 69 = .ok (.ifCond .ne 6, 3) := by decide +kernel
theorem dX7_releaseProduct_72 : decode cX7_releaseProduct 72 = .ok (.iinc 3 1, 3) := by decide +kernel
theorem dX7_releaseProduct_75 : decode cX7_releaseProduct 75 = .ok (.iinc 4 1, 3) := by decide +kernel
theorem dX7_releaseProduct_78 : decode cX7_releaseProduct 78 = .ok (.goto (-45), 3) := by decide +kernel
theorem dX7_releaseProduct_81 : decode cX7_releaseProduct 81 = .ok (.iload_n 3, 1) := by decide +kernel
theorem dX7_releaseProduct_82 : decode cX7_releaseProduct 82 = .ok (.ireturn, 1) := by decide +kernel
theorem dX7_setSeed_0 : decode cX7_setSeed 0 = .ok (.iload_n 1, 1) := by decide +kernel
theorem dX7_setSeed_1 : decode cX7_setSeed 1 = .ok (.ifCond .ge 6, 3) := by decide +kernel
theorem dX7_setSeed_4 : decode cX7_setSeed 4 = .ok (.bipush (-2), 2) := by decide +kernel
theorem dX7_setSeed_6 : decode cX7_setSeed 6 = .ok (.ireturn, 1) := by decide +kernel
theorem dX7_setSeed_7 : decode cX7_setSeed 7 = .ok (.aload_n 0, 1) := by decide +kernel
theorem dX7_setSeed_8 : decode cX7_setSeed 8 = .ok (.getfield 36, 3) := by decide +kernel
theorem dX7_setSeed_11 : decode cX7_setSeed 11 = .ok (.istore_n 2, 1) := by decide +kernel
theorem dX7_setSeed_12 : decode cX7_setSeed 12 = .ok (.aload_n 0, 1) := by decide +kernel
theorem dX7_setSeed_13 : decode cX7_setSeed 13 = .ok (.iload_n 1, 1) := by decide +kernel
theorem dX7_setSeed_14 : decode cX7_setSeed 14 = .ok (.putfield 36, 3) := by decide +kernel
theorem dX7_setSeed_17 : decode cX7_setSeed 17 = .ok (.iload_n 2, 1) := by decide +kernel
theorem dX7_setSeed_18 : decode cX7_setSeed 18 = .ok (.ireturn, 1) := by decide +kernel
theorem dX7_makeRaw_0 : decode cX7_makeRaw 0 = .ok (.aload_n 0, 1) := by decide +kernel
theorem dX7_makeRaw_1 : decode cX7_makeRaw 1 = .ok (.iload_n 1, 1) := by decide +kernel
theorem dX7_makeRaw_2 : decode cX7_makeRaw 2 = .ok (.invokevirtual 82, 3) := by decide +kernel
theorem dX7_makeRaw_5 : decode cX7_makeRaw 5 = .ok (.astore 4, 2) := by decide +kernel
theorem dX7_makeRaw_7 : decode cX7_makeRaw 7 = .ok (.aload 4, 2) := by decide +kernel
theorem dX7_makeRaw_9 : decode cX7_makeRaw 9 = .ok (.ifnull 11, 3) := by decide +kernel
theorem dX7_makeRaw_12 : decode cX7_makeRaw 12 = .ok (.aload_n 0, 1) := by decide +kernel
theorem dX7_makeRaw_13 : decode cX7_makeRaw 13 = .ok (.iload_n 2, 1) := by decide +kernel
theorem dX7_makeRaw_14 : decode cX7_makeRaw 14 = .ok (.invokevirtual 75, 3) := by decide +kernel
theorem dX7_makeRaw_17 : decode cX7_makeRaw 17 = .ok (.ifnonnull 5, 3) := by decide +kernel
theorem dX7_makeRaw_20 : decode cX7_makeRaw 20 = .ok (.iconst (-1), 1) := by decide +kernel
theorem dX7_makeRaw_21 : decode cX7_makeRaw 21 = .ok (.ireturn, 1) := by decide +kernel
theorem dX7_makeRaw_22 : decode cX7_makeRaw 22 = .ok (.iload_n 3, 1) := by decide +kernel
theorem dX7_makeRaw_23 : decode cX7_makeRaw 23 = .ok (.iconst 1, 1) := by decide +kernel
theorem dX7_makeRaw_24 : decode cX7_makeRaw 24 = .ok (.if_icmp .lt 10, 3) := by decide +kernel
theorem dX7_makeRaw_27 : decode cX7_makeRaw 27 = .ok (.iload_n 3, 1) := by decide +kernel
theorem dX7_makeRaw_28 : decode cX7_makeRaw 28 = .ok (.sipush 200, 3) := by decide +kernel
theorem dX7_makeRaw_31 : decode cX7_makeRaw 31 = .ok (.if_icmp .le 6, 3) := by decide +kernel
theorem dX7_makeRaw_34 : decode cX7_makeRaw 34 = .ok (.bipush (-2), 2) := by decide +kernel
theorem dX7_makeRaw_36 : decode cX7_makeRaw 36 = .ok (.ireturn, 1) := by decide +kernel
theorem dX7_makeRaw_37 : decode cX7_makeRaw 37 = .ok (.aload_n 0, 1) := by decide +kernel
theorem dX7_makeRaw_38 : decode cX7_makeRaw 38 = .ok (.getfield 49, 3) := by decide +kernel
theorem dX7_makeRaw_41 : decode cX7_makeRaw 41 = .ok (.aload_n 0, 1) := by decide +kernel
theorem dX7_makeRaw_42 : decode cX7_makeRaw 42 = .ok (.getfield 25, 3) := by decide +kernel
theorem dX7_makeRaw_45 : decode cX7_makeRaw 45 = .ok (.arraylength, 1) := by decide +kernel
theorem dX7_makeRaw_46 : decode cX7_makeRaw 46 = .ok (.if_icmp .lt 6, 3) := by decide +kernel
theorem dX7_makeRaw_49 : decode cX7_makeRaw 49 = .ok (.bipush (-3), 2) := by decide +kernel
theorem dX7_makeRaw_51 : decode cX7_makeRaw 51 = .ok (.ireturn, 1) := by decide +kernel
theorem dX7_makeRaw_52 : decode cX7_makeRaw 52 = .ok (.aload_n 0, 1) := by decide +kernel
theorem dX7_makeRaw_53 : decode cX7_makeRaw 53 = .ok (.aload_n 0, 1) := by decide +kernel
theorem dX7_makeRaw_54 : decode cX7_makeRaw 54 = .ok (.getfield 49, 3) := by decide +kernel
theorem dX7_makeRaw_57 : decode cX7_makeRaw 57 = .ok (.invokevirtual 52, 3) := by decide +kernel
theorem dX7_makeRaw_60 : decode cX7_makeRaw 60 = .ok (.astore 5, 2) := by decide +kernel
theorem dX7_makeRaw_62 : decode cX7_makeRaw 62 = .ok (.aload 5, 2) := by decide +kernel
theorem dX7_makeRaw_64 : decode cX7_makeRaw 64 = .ok (.iload_n 2, 1) := by decide +kernel
theorem dX7_makeRaw_65 : decode cX7_makeRaw 65 = .ok (.iload_n 1, 1) := by decide +kernel
theorem dX7_makeRaw_66 : decode cX7_makeRaw 66 = .ok (.iload_n 3, 1) := by decide +kernel
theorem dX7_makeRaw_67 : decode cX7_makeRaw 67 = .ok (.invokevirtual 111, 3) := by decide +kernel
theorem dX7_makeRaw_70 : decode cX7_makeRaw 70 = .ok (.aload_n 0, 1) := by decide +kernel
theorem dX7_makeRaw_71 : decode cX7_makeRaw 71 = .ok (.aload 5, 2) := by decide +kernel
theorem dX7_makeRaw_73 : decode cX7_makeRaw 73 = .ok (.aload 4, 2) := by decide +kernel
theorem dX7_makeRaw_75 : decode cX7_makeRaw 75 = .ok (.invokevirtual 115, 3) := by decide +kernel
theorem dX7_makeRaw_78 : decode cX7_makeRaw 78 = .ok (.ireturn, 1) := by decide +kernel
theorem dX7_assemble_0 : decode cX7_assemble 0 = .ok (.aload_n 0, 1) := by decide +kernel
theorem dX7_assemble_1 : decode cX7_assemble 1 = .ok (.iload_n 1, 1) := by decide +kernel
theorem dX7_assemble_2 : decode cX7_assemble 2 = .ok (.invokevirtual 82, 3) := by decide +kernel
theorem dX7_assemble_5 : decode cX7_assemble 5 = .ok (.astore 7, 2) := by decide +kernel
theorem dX7_assemble_7 : decode cX7_assemble 7 = .ok (.aload 7, 2) := by decide +kernel
theorem dX7_assemble_9 : decode cX7_assemble 9 = .ok (.ifnull 50, 3) := by decide +kernel
theorem dX7_assemble_12 : decode cX7_assemble 12 = .ok (.aload_n 0, 1) := by decide +kernel
theorem dX7_assemble_13 : decode cX7_assemble 13 = .ok (.iload_n 2, 1) := by decide +kernel
theorem dX7_assemble_14 : decode cX7_assemble 14 = .ok (.invokevirtual 75, 3) := by decide +kernel
theorem dX7_assemble_17 : decode cX7_assemble 17 = .ok (.ifnull 42, 3) := by decide +kernel
theorem dX7_assemble_20 : decode cX7_assemble 20 = .ok (.aload_n 0, 1) := by decide +kernel
theorem dX7_assemble_21 : decode cX7_assemble 21 = .ok (.iload 4, 2) := by decide +kernel
theorem dX7_assemble_23 : decode cX7_assemble 23 = .ok (.invokevirtual 105, 3) := by decide +kernel
theorem dX7_assemble_26 : decode cX7_assemble 26 = .ok (.ifnull 33, 3) := by decide +kernel
theorem dX7_assemble_29 : decode cX7_assemble 29 = .ok (.iload 5, 2) := by decide +kernel
theorem dX7_assemble_31 : decode cX7_assemble 31 = .ok (.iconst (-1), 1) := by decide +kernel
theorem dX7_assemble_32 : decode cX7_assemble 32 = .ok (.if_icmp .eq 12, 3) := by decide +kernel
theorem dX7_assemble_35 : decode cX7_assemble 35 = .ok (.aload_n 0, 1) := by decide +kernel
theorem dX7_assemble_36 : decode cX7_assemble 36 = .ok (.iload 5, 2) := by decide +kernel
theorem dX7_assemble_38 : decode cX7_assemble 38 = .ok (.invokevirtual 105, 3) := by decide +kernel
theorem dX7_assemble_41 : decode cX7_assemble 41 = .ok (.ifnull 18, 3) := by decide +kernel
theorem dX7_assemble_44 : decode cX7_assemble 44 = .ok (.iload 6, 2) := by decide +kernel
theorem dX7_assemble_46 : decode cX7_assemble 46 = .ok (.iconst (-1), 1) := by decide +kernel
theorem dX7_assemble_47 : decode cX7_assemble 47 = .ok (.if_icmp .eq 14, 3) := by decide +kernel
theorem dX7_assemble_50 : decode cX7_assemble 50 = .ok (.aload_n 0, 1) := by decide +kernel
theorem dX7_assemble_51 : decode cX7_assemble 51 = .ok (.iload 6, 2) := by decide +kernel
theorem dX7_assemble_53 : decode cX7_assemble 53 = .ok (.invokevirtual 105, 3) := by decide +kernel
theorem dX7_assemble_56 : decode cX7_assemble 56 = .ok (.ifnonnull 5, 3) := by decide +kernel
theorem dX7_assemble_59 : decode cX7_assemble 59 = .ok (.iconst (-1), 1) := by decide +kernel
theorem dX7_assemble_60 : decode cX7_assemble 60 = .ok (.ireturn, 1) := by decide +kernel
theorem dX7_assemble_61 : decode cX7_assemble 61 = .ok (.iload 4, 2) := by decide +kernel
theorem dX7_assemble_63 : decode cX7_assemble 63 = .ok (.iload 5, 2) := by decide +kernel
theorem dX7_assemble_65 : decode cX7_assemble 65 = .ok (.if_icmp .eq 23, 3) := by decide +kernel
theorem dX7_assemble_68 : decode cX7_assemble 68 = .ok (.iload 4, 2) := by decide +kernel
theorem dX7_assemble_70 : decode cX7_assemble 70 = .ok (.iload 6, 2) := by decide +kernel
theorem dX7_assemble_72 : decode cX7_assemble 72 = .ok (.if_icmp .eq 16, 3) := by decide +kernel
theorem dX7_assemble_75 : decode cX7_assemble 75 = .ok (.iload 5, 2) := by decide +kernel
theorem dX7_assemble_77 : decode cX7_assemble 77 = .ok (.iconst (-1), 1) := by decide +kernel
theorem dX7_assemble_78 : decode cX7_assemble 78 = .ok (.if_icmp .eq 14, 3) := by decide +kernel
theorem dX7_assemble_81 : decode cX7_assemble 81 = .ok (.iload 5, 2) := by decide +kernel
theorem dX7_assemble_83 : decode cX7_assemble 83 = .ok (.iload 6, 2) := by decide +kernel
theorem dX7_assemble_85 : decode cX7_assemble 85 = .ok (.if_icmp .ne 7, 3) := by decide +kernel
theorem dX7_assemble_88 : decode cX7_assemble 88 = .ok (.iconst 1, 1) := by decide +kernel
theorem dX7_assemble_89 : decode cX7_assemble 89 = .ok (.goto 4, 3) := by decide +kernel
theorem dX7_assemble_92 : decode cX7_assemble 92 = .ok (.iconst 0, 1) := by decide +kernel
theorem dX7_assemble_93 : decode cX7_assemble 93 = .ok (.istore 8, 2) := by decide +kernel
theorem dX7_assemble_95 : decode cX7_assemble 95 = .ok (.iload_n 3, 1) := by decide +kernel
theorem dX7_assemble_96 : decode cX7_assemble 96 = .ok (.iconst 1, 1) := by decide +kernel
theorem dX7_assemble_97 : decode cX7_assemble 97 = .ok (.if_icmp .lt 27, 3) := by decide +kernel
theorem dX7_assemble_100 : decode cX7_assemble 100 = .ok (.iload_n 3, 1) := by decide +kernel
theorem dX7_assemble_101 : decode cX7_assemble 101 = .ok (.sipush 200, 3) := by decide +kernel
theorem dX7_assemble_104 : decode cX7_assemble 104 = .ok (.if_icmp .gt 20, 3) := by decide +kernel
theorem dX7_assemble_107 : decode cX7_assemble 107 = .ok (.iload 8, 2) := by decide +kernel
theorem dX7_assemble_109 : decode cX7_assemble 109 = .ok (.ifCond .ne 15, 3) := by decide +kernel
theorem dX7_assemble_112 : decode cX7_assemble 112 = .ok (.iload 5, 2) := by decide +kernel
theorem dX7_assemble_114 : decode cX7_assemble 114 = .ok (.iconst (-1), 1) := by decide +kernel
theorem dX7_assemble_115 : decode cX7_assemble 115 = .ok (.if_icmp .ne 12, 3) := by decide +kernel
theorem dX7_assemble_118 : decode cX7_assemble 118 = .ok (.iload 6, 2) := by decide +kernel
theorem dX7_assemble_120 : decode cX7_assemble 120 = .ok (.iconst (-1), 1) := by decide +kernel
theorem dX7_assemble_121 : decode cX7_assemble 121 = .ok (.if_icmp .eq 6, 3) := by decide +kernel
theorem dX7_assemble_124 : decode cX7_assemble 124 = .ok (.bipush (-2), 2) := by decide +kernel
theorem dX7_assemble_126 : decode cX7_assemble 126 = .ok (.ireturn, 1) := by decide +kernel
theorem dX7_assemble_127 : decode cX7_assemble 127 = .ok (.aload_n 0, 1) := by decide +kernel
theorem dX7_assemble_128 : decode cX7_assemble 128 = .ok (.getfield 49, 3) := by decide +kernel
theorem dX7_assemble_131 : decode cX7_assemble 131 = .ok (.aload_n 0, 1) := by decide +kernel
theorem dX7_assemble_132 : decode cX7_assemble 132 = .ok (.getfield 25, 3) := by decide +kernel
theorem dX7_assemble_135 : decode cX7_assemble 135 = .ok (.arraylength, 1) := by decide +kernel
theorem dX7_assemble_136 : decode cX7_assemble 136 = .ok (.if_icmp .ge 45, 3) := by decide +kernel
theorem dX7_assemble_139 : decode cX7_assemble 139 = .ok (.aload_n 0, 1) := by decide +kernel
theorem dX7_assemble_140 : decode cX7_assemble 140 = .ok (.iload 4, 2) := by decide +kernel
theorem dX7_assemble_142 : decode cX7_assemble 142 = .ok (.iload_n 3, 1) := by decide +kernel
theorem dX7_assemble_143 : decode cX7_assemble 143 = .ok (.invokevirtual 119, 3) := by decide +kernel
theorem dX7_assemble_146 : decode cX7_assemble 146 = .ok (.ifCond .eq 35, 3) := by decide +kernel
theorem dX7_assemble_149 : decode cX7_assemble 149 = .ok (.iload 5, 2) := by decide +kernel
theorem dX7_assemble_151 : decode cX7_assemble 151 = .ok (.iconst (-1), 1) := by decide +kernel
theorem dX7_assemble_152 : decode cX7_assemble 152 = .ok (.if_icmp .eq 13, 3) := by decide +kernel
theorem dX7_assemble_155 : decode cX7_assemble 155 = .ok (.aload_n 0, 1) := by decide +kernel
theorem dX7_assemble_156 : decode cX7_assemble 156 = .ok (.iload 5, 2) := by decide +kernel
theorem dX7_assemble_158 : decode cX7_assemble 158 = .ok (.iload_n 3, 1) := by decide +kernel
theorem dX7_assemble_159 : decode cX7_assemble 159 = .ok (.invokevirtual 119, 3) := by decide +kernel
theorem dX7_assemble_162 : decode cX7_assemble 162 = .ok (.ifCond .eq 19, 3) := by decide +kernel
theorem dX7_assemble_165 : decode cX7_assemble 165 = .ok (.iload 6, 2) := by decide +kernel
theorem dX7_assemble_167 : decode cX7_assemble 167 = .ok (.iconst (-1), 1) := by decide +kernel
theorem dX7_assemble_168 : decode cX7_assemble 168 = .ok (.if_icmp .eq 16, 3) := by decide +kernel
theorem dX7_assemble_171 : decode cX7_assemble 171 = .ok (.aload_n 0, 1) := by decide +kernel
theorem dX7_assemble_172 : decode cX7_assemble 172 = .ok (.iload 6, 2) := by decide +kernel
theorem dX7_assemble_174 : decode cX7_assemble 174 = .ok (.iload_n 3, 1) := by decide +kernel
theorem dX7_assemble_175 : decode cX7_assemble 175 = .ok (.invokevirtual 119, 3) := by decide +kernel
theorem dX7_assemble_178 : decode cX7_assemble 178 = .ok (.ifCond .ne 6, 3) := by decide +kernel
theorem dX7_assemble_181 : decode cX7_assemble 181 = .ok (.bipush (-3), 2) := by decide +kernel
theorem dX7_assemble_183 : decode cX7_assemble 183 = .ok (.ireturn, 1) := by decide +kernel
theorem dX7_assemble_184 : decode cX7_assemble 184 = .ok (.aload_n 0, 1) := by decide +kernel
theorem dX7_assemble_185 : decode cX7_assemble 185 = .ok (.aload_n 0, 1) := by decide +kernel
theorem dX7_assemble_186 : decode cX7_assemble 186 = .ok (.getfield 49, 3) := by decide +kernel
theorem dX7_assemble_189 : decode cX7_assemble 189 = .ok (.invokevirtual 52, 3) := by decide +kernel
theorem dX7_assemble_192 : decode cX7_assemble 192 = .ok (.astore 9, 2) := by decide +kernel
theorem dX7_assemble_194 : decode cX7_assemble 194 = .ok (.aload 9, 2) := by decide +kernel
theorem dX7_assemble_196 : decode cX7_assemble 196 = .ok (.iload_n 2, 1) := by decide +kernel
theorem dX7_assemble_197 : decode cX7_assemble 197 = .ok (.iload_n 1, 1) := by decide +kernel
theorem dX7_assemble_198 : decode cX7_assemble 198 = .ok (.iload_n 3, 1) := by decide +kernel
theorem dX7_assemble_199 : decode cX7_assemble 199 = .ok (.invokevirtual 111, 3) := by decide +kernel
theorem dX7_assemble_202 : decode cX7_assemble 202 = .ok (.aload_n 0, 1) := by decide +kernel
theorem dX7_assemble_203 : decode cX7_assemble 203 = .ok (.aload 9, 2) := by decide +kernel
theorem dX7_assemble_205 : decode cX7_assemble 205 = .ok (.iload 4, 2) := by decide +kernel
theorem dX7_assemble_207 : decode cX7_assemble 207 = .ok (.invokevirtual 123, 3) := by decide +kernel
theorem dX7_assemble_210 : decode cX7_assemble 210 = .ok (.aload_n 0, 1) := by decide +kernel
theorem dX7_assemble_211 : decode cX7_assemble 211 = .ok (.aload 9, 2) := by decide +kernel
theorem dX7_assemble_213 : decode cX7_assemble 213 = .ok (.iload 5, 2) := by decide +kernel
theorem dX7_assemble_215 : decode cX7_assemble 215 = .ok (.invokevirtual 123, 3) := by decide +kernel
theorem dX7_assemble_218 : decode cX7_assemble 218 = .ok (.aload_n 0, 1) := by decide +kernel
theorem dX7_assemble_219 : decode cX7_assemble 219 = .ok (.aload 9, 2) := by decide +kernel
theorem dX7_assemble_221 : decode cX7_assemble 221 = .ok (.iload 6, 2) := by decide +kernel
theorem dX7_assemble_223 : decode cX7_assemble 223 = .ok (.invokevirtual 123, 3) := by decide +kernel
theorem dX7_assemble_226 : decode cX7_assemble 226 = .ok (.aload_n 0, 1) := by decide +kernel
theorem dX7_assemble_227 : decode cX7_assemble 227 = .ok (.aload 9, 2) := by decide +kernel
theorem dX7_assemble_229 : decode cX7_assemble 229 = .ok (.aload 7, 2) := by decide +kernel
theorem dX7_assemble_231 : decode cX7_assemble 231 = .ok (.invokevirtual 115, 3) := by decide +kernel
theorem dX7_assemble_234 : decode cX7_assemble 234 = .ok (.ireturn, 1) := by decide +kernel
theorem dX7_gives_0 : decode cX7_gives 0 = .ok (.aload_n 0, 1) := by decide +kernel
theorem dX7_gives_1 : decode cX7_gives 1 = .ok (.iload_n 1, 1) := by decide +kernel
theorem dX7_gives_2 : decode cX7_gives 2 = .ok (.invokevirtual 105, 3) := by decide +kernel
theorem dX7_gives_5 : decode cX7_gives 5 = .ok (.astore_n 3, 1) := by decide +kernel
theorem dX7_gives_6 : decode cX7_gives 6 = .ok (.aload_n 3, 1) := by decide +kernel
theorem dX7_gives_7 : decode cX7_gives 7 = .ok (.ifnull 24, 3) := by decide +kernel
theorem dX7_gives_10 : decode cX7_gives 10 = .ok (.aload_n 3, 1) := by decide +kernel
theorem dX7_gives_11 : decode cX7_gives 11 = .ok (.getfield 108, 3) := by decide +kernel
theorem dX7_gives_14 : decode cX7_gives 14 = .ok (.iconst 1, 1) := by decide +kernel
theorem dX7_gives_15 : decode cX7_gives 15 = .ok (.if_icmp .ne 16, 3) := by decide +kernel
theorem dX7_gives_18 : decode cX7_gives 18 = .ok (.aload_n 3, 1) := by decide +kernel
theorem dX7_gives_19 : decode cX7_gives 19 = .ok (.iconst 0, 1) := by decide +kernel
theorem dX7_gives_20 : decode cX7_gives 20 = .ok (.invokevirtual 127, 3) := by decide +kernel
theorem dX7_gives_23 : decode cX7_gives 23 = .ok (.iload_n 2, 1) := by decide +kernel
theorem dX7_gives_24 : decode cX7_gives 24 = .ok (.if_icmp .lt 7, 3) := by decide +kernel
theorem dX7_gives_27 : decode cX7_gives 27 = .ok (.iconst 1, 1) := by decide +kernel
theorem dX7_gives_28 : decode cX7_gives 28 = .ok (.goto 4, 3) := by decide +kernel
theorem dX7_gives_31 : decode cX7_gives 31 = .ok (.iconst 0, 1) := by decide +kernel
theorem dX7_gives_32 : decode cX7_gives 32 = .ok (.ireturn, 1) := by decide +kernel
theorem dX7_usePart_0 : decode cX7_usePart 0 = .ok (.aload_n 0, 1) := by decide +kernel
theorem dX7_usePart_1 : decode cX7_usePart 1 = .ok (.iload_n 2, 1) := by decide +kernel
theorem dX7_usePart_2 : decode cX7_usePart 2 = .ok (.invokevirtual 105, 3) := by decide +kernel
theorem dX7_usePart_5 : decode cX7_usePart 5 = .ok (.astore_n 3, 1) := by decide +kernel
theorem dX7_usePart_6 : decode cX7_usePart 6 = .ok (.aload_n 3, 1) := by decide +kernel
theorem dX7_usePart_7 : decode cX7_usePart 7 = .ok (.ifnonnull 4, 3) := by decide +kernel
theorem dX7_usePart_10 : decode cX7_usePart 10 = .ok (.return_, 1) := by decide +kernel
theorem dX7_usePart_11 : decode cX7_usePart 11 = .ok (.aload_n 1, 1) := by decide +kernel
theorem dX7_usePart_12 : decode cX7_usePart 12 = .ok (.iload_n 2, 1) := by decide +kernel
theorem dX7_usePart_13 : decode cX7_usePart 13 = .ok (.invokevirtual 131, 3) := by decide +kernel
theorem dX7_usePart_16 : decode cX7_usePart 16 = .ok (.iconst 0, 1) := by decide +kernel
theorem dX7_usePart_17 : decode cX7_usePart 17 = .ok (.istore 4, 2) := by decide +kernel
theorem dX7_usePart_19 : decode cX7_usePart 19 = .ok (.iconst 0, 1) := by decide +kernel
theorem dX7_usePart_20 : decode cX7_usePart 20 = .ok (.istore 5, 2) := by decide +kernel
theorem dX7_usePart_22 : decode cX7_usePart 22 = .ok (.iload 5, 2) := by decide +kernel
theorem dX7_usePart_24 : decode cX7_usePart 24 = .ok (.aload_n 3, 1) := by decide +kernel
theorem dX7_usePart_25 : decode cX7_usePart 25 = .ok (.getfield 134, 3) := by decide +kernel
theorem dX7_usePart_28 : decode cX7_usePart 28 = .ok (.if_icmp .ge 72, 3) := by decide +kernel
theorem dX7_usePart_31 : decode cX7_usePart 31 = .ok (.iload 4, 2) := by decide +kernel
theorem dX7_usePart_33 : decode cX7_usePart 33 = .ok (.aload_n 1, 1) := by decide +kernel
theorem dX7_usePart_34 : decode cX7_usePart 34 = .ok (.getfield 134, 3) := by decide +kernel
theorem dX7_usePart_37 : decode cX7_usePart 37 = .ok (.if_icmp .ge 63, 3) := by decide +kernel
theorem dX7_usePart_40 : decode cX7_usePart 40 = .ok (.aload_n 3, 1) := by decide +kernel
theorem dX7_usePart_41 : decode cX7_usePart 41 = .ok (.getfield 137, 3) := by decide +kernel
theorem dX7_usePart_44 : decode cX7_usePart 44 = .ok (.iload 5, 2) := by decide +kernel
theorem dX7_usePart_46 : decode cX7_usePart 46 = .ok (.iaload, 1) := by decide +kernel
theorem dX7_usePart_47 : decode cX7_usePart 47 = .ok (.ifCond .ne 47, 3) := by decide +kernel
theorem dX7_usePart_50 : decode cX7_usePart 50 = .ok (.aload_n 3, 1) := by decide +kernel
theorem dX7_usePart_51 : decode cX7_usePart 51 = .ok (.getfield 137, 3) := by decide +kernel
theorem dX7_usePart_54 : decode cX7_usePart 54 = .ok (.iload 5, 2) := by decide +kernel
theorem dX7_usePart_56 : decode cX7_usePart 56 = .ok (.iconst 3, 1) := by decide +kernel
theorem dX7_usePart_57 : decode cX7_usePart 57 = .ok (.iastore, 1) := by decide +kernel
theorem dX7_usePart_58 : decode cX7_usePart 58 = .ok (.aload_n 3, 1) := by decide +kernel
theorem dX7_usePart_59 : decode cX7_usePart 59 = .ok (.getfield 140, 3) := by decide +kernel
theorem dX7_usePart_62 : decode cX7_usePart 62 = .ok (.iload 5, 2) := by decide +kernel
theorem dX7_usePart_64 : decode cX7_usePart 64 = .ok (.aload_n 0, 1) := by decide +kernel
theorem dX7_usePart_65 : decode cX7_usePart 65 = .ok (.getfield 49, 3) := by decide +kernel
theorem dX7_usePart_68 : decode cX7_usePart 68 = .ok (.iload 4, 2) := by decide +kernel
theorem dX7_usePart_70 : decode cX7_usePart 70 = .ok (.invokestatic 143, 3) := by decide +kernel
theorem dX7_usePart_73 : decode cX7_usePart 73 = .ok (.iastore, 1) := by decide +kernel
theorem dX7_usePart_74 : decode cX7_usePart 74 = .ok (.aload_n 1, 1) := by decide +kernel
theorem dX7_usePart_75 : decode cX7_usePart 75 = .ok (.getfield 147, 3) := by decide +kernel
theorem dX7_usePart_78 : decode cX7_usePart 78 = .ok (.iload 4, 2) := by decide +kernel
theorem dX7_usePart_80 : decode cX7_usePart 80 = .ok (.dup2, 1) := by decide +kernel
theorem dX7_usePart_81 : decode cX7_usePart 81 = .ok (.iaload, 1) := by decide +kernel
theorem dX7_usePart_82 : decode cX7_usePart 82 = .ok (.aload_n 3, 1) := by decide +kernel
theorem dX7_usePart_83 : decode cX7_usePart 83 = .ok (.getfield 147, 3) := by decide +kernel
theorem dX7_usePart_86 : decode cX7_usePart 86 = .ok (.iload 5, 2) := by decide +kernel
theorem dX7_usePart_88 : decode cX7_usePart 88 = .ok (.iaload, 1) := by decide +kernel
theorem dX7_usePart_89 : decode cX7_usePart 89 = .ok (.ior, 1) := by decide +kernel
theorem dX7_usePart_90 : decode cX7_usePart 90 = .ok (.iastore, 1) := by decide +kernel
theorem dX7_usePart_91 : decode cX7_usePart 91 = .ok (.iinc 4 1, 3) := by decide +kernel
theorem dX7_usePart_94 : decode cX7_usePart 94 = .ok (.iinc 5 1, 3) := by decide +kernel
theorem dX7_usePart_97 : decode cX7_usePart 97 = .ok (.goto (-75), 3) := by decide +kernel
theorem dX7_usePart_100 : decode cX7_usePart 100 = .ok (.return_, 1) := by decide +kernel
theorem dX7_finish_0 : decode cX7_finish 0 = .ok (.iconst 0, 1) := by decide +kernel
theorem dX7_finish_1 : decode cX7_finish 1 = .ok (.istore_n 3, 1) := by decide +kernel
theorem dX7_finish_2 : decode cX7_finish 2 = .ok (.iload_n 3, 1) := by decide +kernel
theorem dX7_finish_3 : decode cX7_finish 3 = .ok (.aload_n 1, 1) := by decide +kernel
theorem dX7_finish_4 : decode cX7_finish 4 = .ok (.getfield 134, 3) := by decide +kernel
theorem dX7_finish_7 : decode cX7_finish 7 = .ok (.if_icmp .ge 15, 3) := by decide +kernel
theorem dX7_finish_10 : decode cX7_finish 10 = .ok (.aload_n 1, 1) := by decide +kernel
theorem dX7_finish_11 : decode cX7_finish 11 = .ok (.iload_n 3, 1) := by decide +kernel
theorem dX7_finish_12 : decode cX7_finish 12 = .ok (.aload_n 2, 1) := by decide +kernel
theorem dX7_finish_13 : decode cX7_finish 13 = .ok (.invokevirtual 150, 3) := by decide +kernel
theorem dX7_finish_16 : decode cX7_finish 16 = .ok (.iinc 3 1, 3) := by decide +kernel
theorem dX7_finish_19 : decode cX7_finish 19 = .ok (.goto (-17), 3) := by decide +kernel
theorem dX7_finish_22 : decode cX7_finish 22 = .ok (.aload_n 0, 1) := by decide +kernel
theorem dX7_finish_23 : decode cX7_finish 23 = .ok (.dup, 1) := by decide +kernel
theorem dX7_finish_24 : decode cX7_finish 24 = .ok (.getfield 49, 3) := by decide +kernel
theorem dX7_finish_27 : decode cX7_finish 27 = .ok (.iconst 1, 1) := by decide +kernel
theorem dX7_finish_28 : decode cX7_finish 28 = .ok (.iadd, 1) := by decide +kernel
theorem dX7_finish_29 : decode cX7_finish 29 = .ok (.putfield 49, 3) := by decide +kernel
theorem dX7_finish_32 : decode cX7_finish 32 = .ok (.aload_n 0, 1) := by decide +kernel
theorem dX7_finish_33 : decode cX7_finish 33 = .ok (.getfield 49, 3) := by decide +kernel
theorem dX7_finish_36 : decode cX7_finish 36 = .ok (.iconst 1, 1) := by decide +kernel
theorem dX7_finish_37 : decode cX7_finish 37 = .ok (.isub, 1) := by decide +kernel
theorem dX7_finish_38 : decode cX7_finish 38 = .ok (.ireturn, 1) := by decide +kernel
theorem dX7_inspectLot_0 : decode cX7_inspectLot 0 = .ok (.aload_n 0, 1) := by decide +kernel
theorem dX7_inspectLot_1 : decode cX7_inspectLot 1 = .ok (.iload_n 1, 1) := by decide +kernel
theorem dX7_inspectLot_2 : decode cX7_inspectLot 2 = .ok (.invokevirtual 105, 3) := by decide +kernel
theorem dX7_inspectLot_5 : decode cX7_inspectLot 5 = .ok (.astore_n 2, 1) := by decide +kernel
theorem dX7_inspectLot_6 : decode cX7_inspectLot 6 = .ok (.aload_n 2, 1) := by decide +kernel
theorem dX7_inspectLot_7 : decode cX7_inspectLot 7 = .ok (.ifnonnull 5, 3) := by decide +kernel
theorem dX7_inspectLot_10 : decode cX7_inspectLot 10 = .ok (.iconst (-1), 1) := by decide +kernel
theorem dX7_inspectLot_11 : decode cX7_inspectLot 11 = .ok (.ireturn, 1) := by decide +kernel
theorem dX7_inspectLot_12 : decode cX7_inspectLot 12 = .ok (.aload_n 0, 1) := by decide +kernel
theorem dX7_inspectLot_13 : decode cX7_inspectLot 13 = .ok (.aload_n 2, 1) := by decide +kernel
theorem dX7_inspectLot_14 : decode cX7_inspectLot 14 = .ok (.getfield 72, 3) := by decide +kernel
theorem dX7_inspectLot_17 : decode cX7_inspectLot 17 = .ok (.invokevirtual 75, 3) := by decide +kernel
theorem dX7_inspectLot_20 : decode cX7_inspectLot 20 = .ok (.astore_n 3, 1) := by decide +kernel
theorem dX7_inspectLot_21 : decode cX7_inspectLot 21 = .ok (.aload_n 0, 1) := by decide +kernel
theorem dX7_inspectLot_22 : decode cX7_inspectLot 22 = .ok (.aload_n 2, 1) := by decide +kernel
theorem dX7_inspectLot_23 : decode cX7_inspectLot 23 = .ok (.invokevirtual 154, 3) := by decide +kernel
theorem dX7_inspectLot_26 : decode cX7_inspectLot 26 = .ok (.istore 4, 2) := by decide +kernel
theorem dX7_inspectLot_28 : decode cX7_inspectLot 28 = .ok (.aload_n 3, 1) := by decide +kernel
theorem dX7_inspectLot_29 : decode cX7_inspectLot 29 = .ok (.ifnull 23, 3) := by decide +kernel
theorem dX7_inspectLot_32 : decode cX7_inspectLot 32 = .ok (.aload_n 2, 1) := by decide +kernel
theorem dX7_inspectLot_33 : decode cX7_inspectLot 33 = .ok (.getfield 108, 3) := by decide +kernel
theorem dX7_inspectLot_36 : decode cX7_inspectLot 36 = .ok (.ifCond .ne 16, 3) := by decide +kernel
theorem dX7_inspectLot_39 : decode cX7_inspectLot 39 = .ok (.iload 4, 2) := by decide +kernel
theorem dX7_inspectLot_41 : decode cX7_inspectLot 41 = .ok (.ifCond .eq 11, 3) := by decide +kernel
theorem dX7_inspectLot_44 : decode cX7_inspectLot 44 = .ok (.aload_n 3, 1) := by decide +kernel
theorem dX7_inspectLot_45 : decode cX7_inspectLot 45 = .ok (.getfield 98, 3) := by decide +kernel
theorem dX7_inspectLot_48 : decode cX7_inspectLot 48 = .ok (.iconst 3, 1) := by decide +kernel
theorem dX7_inspectLot_49 : decode cX7_inspectLot 49 = .ok (.if_icmp .ne 6, 3) := by decide +kernel
theorem dX7_inspectLot_52 : decode cX7_inspectLot 52 = .ok (.bipush (-3), 2) := by decide +kernel
theorem dX7_inspectLot_54 : decode cX7_inspectLot 54 = .ok (.ireturn, 1) := by decide +kernel
theorem dX7_inspectLot_55 : decode cX7_inspectLot 55 = .ok (.aload_n 2, 1) := by decide +kernel
theorem dX7_inspectLot_56 : decode cX7_inspectLot 56 = .ok (.getfield 158, 3) := by decide +kernel
theorem dX7_inspectLot_59 : decode cX7_inspectLot 59 = .ok (.ifCond .ne 7, 3) := by decide +kernel
theorem dX7_inspectLot_62 : decode cX7_inspectLot 62 = .ok (.iconst 1, 1) := by decide +kernel
theorem dX7_inspectLot_63 : decode cX7_inspectLot 63 = .ok (.goto 4, 3) := by decide +kernel
theorem dX7_inspectLot_66 : decode cX7_inspectLot 66 = .ok (.iconst 0, 1) := by decide +kernel
theorem dX7_inspectLot_67 : decode cX7_inspectLot 67 = .ok (.istore 5, 2) := by decide +kernel
theorem dX7_inspectLot_69 : decode cX7_inspectLot 69 = .ok (.aload_n 2, 1) := by decide +kernel
theorem dX7_inspectLot_70 : decode cX7_inspectLot 70 = .ok (.iload 5, 2) := by decide +kernel
theorem dX7_inspectLot_72 : decode cX7_inspectLot 72 = .ok (.ifCond .eq 10, 3) := by decide +kernel
theorem dX7_inspectLot_75 : decode cX7_inspectLot 75 = .ok (.aload_n 3, 1) := by decide +kernel
theorem dX7_inspectLot_76 : decode cX7_inspectLot 76 = .ok (.getfield 98, 3) := by decide +kernel
theorem dX7_inspectLot_79 : decode cX7_inspectLot 79 = .ok (.goto 4, 3) := by decide +kernel
theorem dX7_inspectLot_82 : decode cX7_inspectLot 82 = .ok (.iconst 1, 1) := by decide +kernel
theorem dX7_inspectLot_83 : decode cX7_inspectLot 83 = .ok (.putfield 161, 3) := by decide +kernel
theorem dX7_inspectLot_86 : decode cX7_inspectLot 86 = .ok (.aload_n 2, 1) := by decide +kernel
theorem dX7_inspectLot_87 : decode cX7_inspectLot 87 = .ok (.iload 4, 2) := by decide +kernel
theorem dX7_inspectLot_89 : decode cX7_inspectLot 89 = .ok (.aload_n 2, 1) := by decide +kernel
theorem dX7_inspectLot_90 : decode cX7_inspectLot 90 = .ok (.getfield 161, 3) := by decide +kernel
theorem dX7_inspectLot_93 : decode cX7_inspectLot 93 = .ok (.invokestatic 162, 3) := by decide +kernel
theorem dX7_inspectLot_96 : decode cX7_inspectLot 96 = .ok (.putfield 165, 3) := by decide +kernel
theorem dX7_inspectLot_99 : decode cX7_inspectLot 99 = .ok (.aload_n 2, 1) := by decide +kernel
theorem dX7_inspectLot_100 : decode cX7_inspectLot 100 = .ok (.aload_n 3, 1) := by decide +kernel
theorem dX7_inspectLot_101 : decode cX7_inspectLot 101 = .ok (.aload_n 2, 1) := by decide +kernel
theorem dX7_inspectLot_102 : decode cX7_inspectLot 102 = .ok (.getfield 165, 3) := by decide +kernel
theorem dX7_inspectLot_105 : decode cX7_inspectLot 105 = .ok (.aload_n 2, 1) := by decide +kernel
theorem dX7_inspectLot_106 : decode cX7_inspectLot 106 = .ok (.getfield 161, 3) := by decide +kernel
theorem dX7_inspectLot_109 : decode cX7_inspectLot 109 = .ok (.invokevirtual 168, 3) := by decide +kernel
theorem dX7_inspectLot_112 : decode cX7_inspectLot 112 = .ok (.putfield 171, 3) := by decide +kernel
theorem dX7_inspectLot_115 : decode cX7_inspectLot 115 = .ok (.aload_n 2, 1) := by decide +kernel
theorem dX7_inspectLot_116 : decode cX7_inspectLot 116 = .ok (.iconst 0, 1) := by decide +kernel
theorem dX7_inspectLot_117 : decode cX7_inspectLot 117 = .ok (.putfield 174, 3) := by decide +kernel
theorem dX7_inspectLot_120 : decode cX7_inspectLot 120 = .ok (.iconst 0, 1) := by decide +kernel
theorem dX7_inspectLot_121 : decode cX7_inspectLot 121 = .ok (.istore 6, 2) := by decide +kernel
theorem dX7_inspectLot_123 : decode cX7_inspectLot 123 = .ok (.iload 6, 2) := by decide +kernel
theorem dX7_inspectLot_125 : decode cX7_inspectLot 125 = .ok (.aload_n 2, 1) := by decide +kernel
theorem dX7_inspectLot_126 : decode cX7_inspectLot 126 = .ok (.getfield 165, 3) := by decide +kernel
theorem dX7_inspectLot_129 : decode cX7_inspectLot 129 = .ok (.if_icmp .ge 70, 3) := by decide +kernel
theorem dX7_inspectLot_132 : decode cX7_inspectLot 132 = .ok (.aload_n 0, 1) := by decide +kernel
theorem dX7_inspectLot_133 : decode cX7_inspectLot 133 = .ok (.iload 4, 2) := by decide +kernel
theorem dX7_inspectLot_135 : decode cX7_inspectLot 135 = .ok (.iload 6, 2) := by decide +kernel
theorem dX7_inspectLot_137 : decode cX7_inspectLot 137 = .ok (.isub, 1) := by decide +kernel
theorem dX7_inspectLot_138 : decode cX7_inspectLot 138 = .ok (.invokevirtual 177, 3) := by decide +kernel
theorem dX7_inspectLot_141 : decode cX7_inspectLot 141 = .ok (.istore 7, 2) := by decide +kernel
theorem dX7_inspectLot_143 : decode cX7_inspectLot 143 = .ok (.aload_n 2, 1) := by decide +kernel
theorem dX7_inspectLot_144 : decode cX7_inspectLot 144 = .ok (.iload 7, 2) := by decide +kernel
theorem dX7_inspectLot_146 : decode cX7_inspectLot 146 = .ok (.aload_n 3, 1) := by decide +kernel
theorem dX7_inspectLot_147 : decode cX7_inspectLot 147 = .ok (.getfield 79, 3) := by decide +kernel
theorem dX7_inspectLot_150 : decode cX7_inspectLot 150 = .ok (.invokevirtual 180, 3) := by decide +kernel
theorem dX7_inspectLot_153 : decode cX7_inspectLot 153 = .ok (.ifCond .eq 40, 3) := by decide +kernel
theorem dX7_inspectLot_156 : decode cX7_inspectLot 156 = .ok (.aload_n 2, 1) := by decide +kernel
theorem dX7_inspectLot_157 : decode cX7_inspectLot 157 = .ok (.dup, 1) := by decide +kernel
theorem dX7_inspectLot_158 : decode cX7_inspectLot 158 = .ok (.getfield 174, 3) := by decide +kernel
theorem dX7_inspectLot_161 : decode cX7_inspectLot 161 = .ok (.iconst 1, 1) := by decide +kernel
theorem dX7_inspectLot_162 : decode cX7_inspectLot 162 = .ok (.iadd, 1) := by decide +kernel
theorem dX7_inspectLot_163 : decode cX7_inspectLot 163 = .ok (.putfield 174, 3) := by decide +kernel
theorem dX7_inspectLot_166 : decode cX7_inspectLot 166 = .ok (.aload_n 2, 1) := by decide +kernel
theorem dX7_inspectLot_167 : decode cX7_inspectLot 167 = .ok (.getfield 137, 3) := by decide +kernel
theorem dX7_inspectLot_170 : decode cX7_inspectLot 170 = .ok (.iload 7, 2) := by decide +kernel
theorem dX7_inspectLot_172 : decode cX7_inspectLot 172 = .ok (.iconst 1, 1) := by decide +kernel
theorem dX7_inspectLot_173 : decode cX7_inspectLot 173 = .ok (.iastore, 1) := by decide +kernel
theorem dX7_inspectLot_174 : decode cX7_inspectLot 174 = .ok (.aload_n 0, 1) := by decide +kernel
theorem dX7_inspectLot_175 : decode cX7_inspectLot 175 = .ok (.iload_n 1, 1) := by decide +kernel
theorem dX7_inspectLot_176 : decode cX7_inspectLot 176 = .ok (.iload 7, 2) := by decide +kernel
theorem dX7_inspectLot_178 : decode cX7_inspectLot 178 = .ok (.aload_n 2, 1) := by decide +kernel
theorem dX7_inspectLot_179 : decode cX7_inspectLot 179 = .ok (.getfield 147, 3) := by decide +kernel
theorem dX7_inspectLot_182 : decode cX7_inspectLot 182 = .ok (.iload 7, 2) := by decide +kernel
theorem dX7_inspectLot_184 : decode cX7_inspectLot 184 = .ok (.iaload, 1) := by decide +kernel
theorem dX7_inspectLot_185 : decode cX7_inspectLot 185 = .ok (.aload_n 3, 1) := by decide +kernel
theorem dX7_inspectLot_186 : decode cX7_inspectLot 186 = .ok (.getfield 79, 3) := by decide +kernel
theorem dX7_inspectLot_189 : decode cX7_inspectLot 189 = .ok (.iand, 1) := by decide +kernel
theorem dX7_inspectLot_190 : decode cX7_inspectLot 190 = .ok (.invokevirtual 183, 3) := by decide +kernel
theorem dX7_inspectLot_193 : decode cX7_inspectLot 193 = .ok (.iinc 6 1, 3) := by decide +kernel
theorem dX7_inspectLot_196 : decode cX7_inspectLot 196 = .ok (.goto (-73), 3) := by decide +kernel
theorem dX7_inspectLot_199 : decode cX7_inspectLot 199 = .ok (.aload_n 2, 1) := by decide +kernel
theorem dX7_inspectLot_200 : decode cX7_inspectLot 200 = .ok (.dup, 1) := by decide +kernel
theorem dX7_inspectLot_201 : decode cX7_inspectLot 201 = .ok (.getfield 158, 3) := by decide +kernel
theorem dX7_inspectLot_204 : decode cX7_inspectLot 204 = .ok (.iconst 1, 1) := by decide +kernel
theorem dX7_inspectLot_205 : decode cX7_inspectLot 205 = .ok (.iadd, 1) := by decide +kernel
theorem dX7_inspectLot_206 : decode cX7_inspectLot 206 = .ok (.putfield 158, 3) := by decide +kernel
theorem dX7_inspectLot_209 : decode cX7_inspectLot 209 = .ok (.aload_n 2, 1) := by decide +kernel
theorem dX7_inspectLot_210 : decode cX7_inspectLot 210 = .ok (.aload_n 2, 1) := by decide +kernel
theorem dX7_inspectLot_211 : decode cX7_inspectLot 211 = .ok (.getfield 174, 3) := by decide +kernel
theorem dX7_inspectLot_214 : decode cX7_inspectLot 214 = .ok (.aload_n 2, 1) := by decide +kernel
theorem dX7_inspectLot_215 : decode cX7_inspectLot 215 = .ok (.getfield 171, 3) := by decide +kernel
theorem dX7_inspectLot_218 : decode cX7_inspectLot 218 = .ok (.if_icmp .le 7, 3) := by decide +kernel
theorem dX7_inspectLot_221 : decode cX7_inspectLot 221 = .ok (.iconst 2, 1) := by decide +kernel
theorem dX7_inspectLot_222 : decode cX7_inspectLot 222 = .ok (.goto 4, 3) := by decide +kernel
theorem dX7_inspectLot_225 : decode cX7_inspectLot 225 = .ok (.iconst 1, 1) := by decide +kernel
theorem dX7_inspectLot_226 : decode cX7_inspectLot 226 = .ok (.putfield 108, 3) := by decide +kernel
theorem dX7_inspectLot_229 : decode cX7_inspectLot 229 = .ok (.iload 5, 2) := by decide +kernel
theorem dX7_inspectLot_231 : decode cX7_inspectLot 231 = .ok (.ifCond .eq 41, 3) := by decide +kernel
theorem dX7_inspectLot_234 : decode cX7_inspectLot 234 = .ok (.aload_n 3, 1) := by decide +kernel
theorem dX7_inspectLot_235 : decode cX7_inspectLot 235 = .ok (.dup, 1) := by decide +kernel
theorem dX7_inspectLot_236 : decode cX7_inspectLot 236 = .ok (.getfield 186, 3) := by decide +kernel
theorem dX7_inspectLot_239 : decode cX7_inspectLot 239 = .ok (.aload_n 2, 1) := by decide +kernel
theorem dX7_inspectLot_240 : decode cX7_inspectLot 240 = .ok (.getfield 165, 3) := by decide +kernel
theorem dX7_inspectLot_243 : decode cX7_inspectLot 243 = .ok (.iadd, 1) := by decide +kernel
theorem dX7_inspectLot_244 : decode cX7_inspectLot 244 = .ok (.putfield 186, 3) := by decide +kernel
theorem dX7_inspectLot_247 : decode cX7_inspectLot 247 = .ok (.aload_n 3, 1) := by decide +kernel
theorem dX7_inspectLot_248 : decode cX7_inspectLot 248 = .ok (.dup, 1) := by decide +kernel
theorem dX7_inspectLot_249 : decode cX7_inspectLot 249 = .ok (.getfield 189, 3) := by decide +kernel
theorem dX7_inspectLot_252 : decode cX7_inspectLot 252 = .ok (.aload_n 2, 1) := by decide +kernel
theorem dX7_inspectLot_253 : decode cX7_inspectLot 253 = .ok (.getfield 174, 3) := by decide +kernel
theorem dX7_inspectLot_256 : decode cX7_inspectLot 256 = .ok (.iadd, 1) := by decide +kernel
theorem dX7_inspectLot_257 : decode cX7_inspectLot 257 = .ok (.putfield 189, 3) := by decide +kernel
theorem dX7_inspectLot_260 : decode cX7_inspectLot 260 = .ok (.aload_n 3, 1) := by decide +kernel
theorem dX7_inspectLot_261 : decode cX7_inspectLot 261 = .ok (.aload_n 2, 1) := by decide +kernel
theorem dX7_inspectLot_262 : decode cX7_inspectLot 262 = .ok (.getfield 174, 3) := by decide +kernel
theorem dX7_inspectLot_265 : decode cX7_inspectLot 265 = .ok (.aload_n 2, 1) := by decide +kernel
theorem dX7_inspectLot_266 : decode cX7_inspectLot 266 = .ok (.getfield 171, 3) := by decide +kernel
theorem dX7_inspectLot_269 : decode cX7_inspectLot 269 = .ok (.invokevirtual 190, 3) := by decide +kernel
theorem dX7_inspectLot_272 : decode cX7_inspectLot 272 = .ok (.aload_n 2, 1) := by decide +kernel
theorem dX7_inspectLot_273 : decode cX7_inspectLot 273 = .ok (.getfield 174, 3) := by decide +kernel
theorem dX7_inspectLot_276 : decode cX7_inspectLot 276 = .ok (.ireturn, 1) := by decide +kernel
theorem dX7_listDrawable_0 : decode cX7_listDrawable 0 = .ok (.iconst 0, 1) := by decide +kernel
theorem dX7_listDrawable_1 : decode cX7_listDrawable 1 = .ok (.istore_n 2, 1) := by decide +kernel
theorem dX7_listDrawable_2 : decode cX7_listDrawable 2 = .ok (.iconst 0, 1) := by decide +kernel
theorem dX7_listDrawable_3 : decode cX7_listDrawable 3 = .ok (.istore_n 3, 1) := by decide +kernel
theorem dX7_listDrawable_4 : decode cX7_listDrawable 4 = .ok (.iload_n 3, 1) := by decide +kernel
theorem dX7_listDrawable_5 : decode cX7_listDrawable 5 = .ok (.aload_n 1, 1) := by decide +kernel
theorem dX7_listDrawable_6 : decode cX7_listDrawable 6 = .ok (.getfield 134, 3) := by decide +kernel
theorem dX7_listDrawable_9 : decode cX7_listDrawable 9 = .ok (.if_icmp .ge 37, 3) := by decide +kernel
theorem dX7_listDrawable_12 : decode cX7_listDrawable 12 = .ok (.iload_n 2, 1) := by decide +kernel
theorem dX7_listDrawable_13 : decode cX7_listDrawable 13 = .ok (.aload_n 0, 1) := by decide +kernel
theorem dX7_listDrawable_14 : decode cX7_listDrawable 14 = .ok (.getfield 33, 3) := by decide +kernel
theorem dX7_listDrawable_17 : decode cX7_listDrawable 17 = .ok (.arraylength, 1) := by decide +kernel
theorem dX7_listDrawable_18 : decode cX7_listDrawable 18 = .ok (.if_icmp .ge 28, 3) := by decide +kernel
theorem dX7_listDrawable_21 : decode cX7_listDrawable 21 = .ok (.aload_n 1, 1) := by decide +kernel
theorem dX7_listDrawable_22 : decode cX7_listDrawable 22 = .ok (.getfield 137, 3) := by decide +kernel
theorem dX7_listDrawable_25 : decode cX7_listDrawable 25 = .ok (.iload_n 3, 1) := by decide +kernel
theorem dX7_listDrawable_26 : decode cX7_listDrawable 26 = .ok (.iaload, 1) := by decide +kernel
theorem dX7_listDrawable_27 : decode cX7_listDrawable 27 = .ok (.ifCond .ne 13, 3) := by decide +kernel
theorem dX7_listDrawable_30 : decode cX7_listDrawable 30 = .ok (.aload_n 0, 1) := by decide +kernel
theorem dX7_listDrawable_31 : decode cX7_listDrawable 31 = .ok (.getfield 33, 3) := by decide +kernel
theorem dX7_listDrawable_34 : decode cX7_listDrawable 34 = .ok (.iload_n 2, 1) := by decide +kernel
theorem dX7_listDrawable_35 : decode cX7_listDrawable 35 = .ok (.iload_n 3, 1) := by decide +kernel
theorem dX7_listDrawable_36 : decode cX7_listDrawable 36 = .ok (.iastore, 1) := by decide +kernel
theorem dX7_listDrawable_37 : decode cX7_listDrawable 37 = .ok (.iinc 2 1, 3) := by decide +kernel
theorem dX7_listDrawable_40 : decode cX7_listDrawable 40 = .ok (.iinc 3 1, 3) := by decide +kernel
theorem dX7_listDrawable_43 : decode cX7_listDrawable 43 = .ok (.goto (-39), 3) := by decide +kernel
theorem dX7_listDrawable_46 : decode cX7_listDrawable 46 = .ok (.iload_n 2, 1) := by decide +kernel
theorem dX7_listDrawable_47 : decode cX7_listDrawable 47 = .ok (.ireturn, 1) := by decide +kernel
theorem dX7_drawUnit_0 : decode cX7_drawUnit 0 = .ok (.aload_n 0, 1) := by decide +kernel
theorem dX7_drawUnit_1 : decode cX7_drawUnit 1 = .ok (.aload_n 0, 1) := by decide +kernel
theorem dX7_drawUnit_2 : decode cX7_drawUnit 2 = .ok (.getfield 36, 3) := by decide +kernel
theorem dX7_drawUnit_5 : decode cX7_drawUnit 5 = .ok (.i2l, 1) := by decide +kernel
theorem dX7_drawUnit_6 : decode cX7_drawUnit 6 = .ok (.ldc2_w 194, 3) := by decide +kernel
theorem dX7_drawUnit_9 : decode cX7_drawUnit 9 = .ok (.lmul, 1) := by decide +kernel
theorem dX7_drawUnit_10 : decode cX7_drawUnit 10 = .ok (.ldc2_w 196, 3) := by decide +kernel
theorem dX7_drawUnit_13 : decode cX7_drawUnit 13 = .ok (.ladd, 1) := by decide +kernel
theorem dX7_drawUnit_14 : decode cX7_drawUnit 14 = .ok (.ldc2_w 198, 3) := by decide +kernel
theorem dX7_drawUnit_17 : decode cX7_drawUnit 17 = .ok (.lrem, 1) := by decide +kernel
theorem dX7_drawUnit_18 : decode cX7_drawUnit 18 = .ok (.l2i, 1) := by decide +kernel
theorem dX7_drawUnit_19 : decode cX7_drawUnit 19 = .ok (.putfield 36, 3) := by decide +kernel
theorem dX7_drawUnit_22 : decode cX7_drawUnit 22 = .ok (.iload_n 1, 1) := by decide +kernel
theorem dX7_drawUnit_23 : decode cX7_drawUnit 23 = .ok (.iconst 1, 1) := by decide +kernel
theorem dX7_drawUnit_24 : decode cX7_drawUnit 24 = .ok (.if_icmp .lt 12, 3) := by decide +kernel
theorem dX7_drawUnit_27 : decode cX7_drawUnit 27 = .ok (.iload_n 1, 1) := by decide +kernel
theorem dX7_drawUnit_28 : decode cX7_drawUnit 28 = .ok (.aload_n 0, 1) := by decide +kernel
theorem dX7_drawUnit_29 : decode cX7_drawUnit 29 = .ok (.getfield 33, 3) := by decide +kernel
theorem dX7_drawUnit_32 : decode cX7_drawUnit 32 = .ok (.arraylength, 1) := by decide +kernel
theorem dX7_drawUnit_33 : decode cX7_drawUnit 33 = .ok (.if_icmp .le 5, 3) := by decide +kernel
theorem dX7_drawUnit_36 : decode cX7_drawUnit 36 = .ok (.iconst (-1), 1) := by decide +kernel
theorem dX7_drawUnit_37 : decode cX7_drawUnit 37 = .ok (.ireturn, 1) := by decide +kernel
theorem dX7_drawUnit_38 : decode cX7_drawUnit 38 = .ok (.aload_n 0, 1) := by decide +kernel
theorem dX7_drawUnit_39 : decode cX7_drawUnit 39 = .ok (.getfield 36, 3) := by decide +kernel
theorem dX7_drawUnit_42 : decode cX7_drawUnit 42 = .ok (.ldc 200, 2) := by decide +kernel
theorem dX7_drawUnit_44 : decode cX7_drawUnit 44 = .ok (.idiv, 1) := by decide +kernel
theorem dX7_drawUnit_45 : decode cX7_drawUnit 45 = .ok (.iload_n 1, 1) := by decide +kernel
theorem dX7_drawUnit_46 : decode cX7_drawUnit 46 = .ok (.irem, 1) := by decide +kernel
theorem dX7_drawUnit_47 : decode cX7_drawUnit 47 = .ok (.istore_n 2, 1) := by decide +kernel
theorem dX7_drawUnit_48 : decode cX7_drawUnit 48 = .ok (.aload_n 0, 1) := by decide +kernel
theorem dX7_drawUnit_49 : decode cX7_drawUnit 49 = .ok (.getfield 33, 3) := by decide +kernel
theorem dX7_drawUnit_52 : decode cX7_drawUnit 52 = .ok (.iload_n 2, 1) := by decide +kernel
theorem dX7_drawUnit_53 : decode cX7_drawUnit 53 = .ok (.iaload, 1) := by decide +kernel
theorem dX7_drawUnit_54 : decode cX7_drawUnit 54 = .ok (.istore_n 3, 1) := by decide +kernel
theorem dX7_drawUnit_55 : decode cX7_drawUnit 55 = .ok (.aload_n 0, 1) := by decide +kernel
theorem dX7_drawUnit_56 : decode cX7_drawUnit 56 = .ok (.getfield 33, 3) := by decide +kernel
theorem dX7_drawUnit_59 : decode cX7_drawUnit 59 = .ok (.iload_n 2, 1) := by decide +kernel
theorem dX7_drawUnit_60 : decode cX7_drawUnit 60 = .ok (.iconst 1, 1) := by decide +kernel
theorem dX7_drawUnit_61 : decode cX7_drawUnit 61 = .ok (.iadd, 1) := by decide +kernel
theorem dX7_drawUnit_62 : decode cX7_drawUnit 62 = .ok (.aload_n 0, 1) := by decide +kernel
theorem dX7_drawUnit_63 : decode cX7_drawUnit 63 = .ok (.getfield 33, 3) := by decide +kernel
theorem dX7_drawUnit_66 : decode cX7_drawUnit 66 = .ok (.iload_n 2, 1) := by decide +kernel
theorem dX7_drawUnit_67 : decode cX7_drawUnit 67 = .ok (.iload_n 1, 1) := by decide +kernel
theorem dX7_drawUnit_68 : decode cX7_drawUnit 68 = .ok (.iload_n 2, 1) := by decide +kernel
theorem dX7_drawUnit_69 : decode cX7_drawUnit 69 = .ok (.isub, 1) := by decide +kernel
theorem dX7_drawUnit_70 : decode cX7_drawUnit 70 = .ok (.iconst 1, 1) := by decide +kernel
theorem dX7_drawUnit_71 : decode cX7_drawUnit 71 = .ok (.isub, 1) := by decide +kernel
theorem dX7_drawUnit_72 : decode cX7_drawUnit 72 = .ok (.invokestatic 59, 3) := by decide +kernel
theorem dX7_drawUnit_75 : decode cX7_drawUnit 75 = .ok (.iload_n 3, 1) := by decide +kernel
theorem dX7_drawUnit_76 : decode cX7_drawUnit 76 = .ok (.ireturn, 1) := by decide +kernel
theorem dX7_sortLot_0 : decode cX7_sortLot 0 = .ok (.aload_n 0, 1) := by decide +kernel
theorem dX7_sortLot_1 : decode cX7_sortLot 1 = .ok (.iload_n 1, 1) := by decide +kernel
theorem dX7_sortLot_2 : decode cX7_sortLot 2 = .ok (.invokevirtual 105, 3) := by decide +kernel
theorem dX7_sortLot_5 : decode cX7_sortLot 5 = .ok (.astore_n 2, 1) := by decide +kernel
theorem dX7_sortLot_6 : decode cX7_sortLot 6 = .ok (.aload_n 2, 1) := by decide +kernel
theorem dX7_sortLot_7 : decode cX7_sortLot 7 = .ok (.ifnonnull 5, 3) := by decide +kernel
theorem dX7_sortLot_10 : decode cX7_sortLot 10 = .ok (.iconst (-1), 1) := by decide +kernel
theorem dX7_sortLot_11 : decode cX7_sortLot 11 = .ok (.ireturn, 1) := by decide +kernel
theorem dX7_sortLot_12 : decode cX7_sortLot 12 = .ok (.aload_n 0, 1) := by decide +kernel
theorem dX7_sortLot_13 : decode cX7_sortLot 13 = .ok (.aload_n 2, 1) := by decide +kernel
theorem dX7_sortLot_14 : decode cX7_sortLot 14 = .ok (.getfield 72, 3) := by decide +kernel
theorem dX7_sortLot_17 : decode cX7_sortLot 17 = .ok (.invokevirtual 75, 3) := by decide +kernel
theorem dX7_sortLot_20 : decode cX7_sortLot 20 = .ok (.astore_n 3, 1) := by decide +kernel
theorem dX7_sortLot_21 : decode cX7_sortLot 21 = .ok (.aload_n 3, 1) := by decide +kernel
theorem dX7_sortLot_22 : decode cX7_sortLot 22 = .ok (.ifnull 11, 3) := by decide +kernel
theorem dX7_sortLot_25 : decode cX7_sortLot 25 = .ok (.aload_n 2, 1) := by decide +kernel
theorem dX7_sortLot_26 : decode cX7_sortLot 26 = .ok (.getfield 108, 3) := by decide +kernel
theorem dX7_sortLot_29 : decode cX7_sortLot 29 = .ok (.iconst 2, 1) := by decide +kernel
theorem dX7_sortLot_30 : decode cX7_sortLot 30 = .ok (.if_icmp .eq 6, 3) := by decide +kernel
theorem dX7_sortLot_33 : decode cX7_sortLot 33 = .ok (.bipush (-3), 2) := by decide +kernel
theorem dX7_sortLot_35 : decode cX7_sortLot 35 = .ok (.ireturn, 1) := by decide +kernel
theorem dX7_sortLot_36 : decode cX7_sortLot 36 = .ok (.iconst 0, 1) := by decide +kernel
theorem dX7_sortLot_37 : decode cX7_sortLot 37 = .ok (.istore 4, 2) := by decide +kernel
theorem dX7_sortLot_39 : decode cX7_sortLot 39 = .ok (.iconst 0, 1) := by decide +kernel
theorem dX7_sortLot_40 : decode cX7_sortLot 40 = .ok (.istore 5, 2) := by decide +kernel
theorem dX7_sortLot_42 : decode cX7_sortLot 42 = .ok (.iload 5, 2) := by decide +kernel
theorem dX7_sortLot_44 : decode cX7_sortLot 44 = .ok (.aload_n 2, 1) := by decide +kernel
theorem dX7_sortLot_45 : decode cX7_sortLot 45 = .ok (.getfield 134, 3) := by decide +kernel
theorem dX7_sortLot_48 : decode cX7_sortLot 48 = .ok (.if_icmp .ge 113, 3) := by decide +kernel
theorem dX7_sortLot_51 : decode cX7_sortLot 51 = .ok (.aload_n 2, 1) := by decide +kernel
theorem dX7_sortLot_52 : decode cX7_sortLot 52 = .ok (.getfield 137, 3) := by decide +kernel
theorem dX7_sortLot_55 : decode cX7_sortLot 55 = .ok (.iload 5, 2) := by decide +kernel
theorem dX7_sortLot_57 : decode cX7_sortLot 57 = .ok (.iaload, 1) := by decide +kernel
theorem dX7_sortLot_58 : decode cX7_sortLot 58 = .ok (.iconst 1, 1) := by decide +kernel
theorem dX7_sortLot_59 : decode cX7_sortLot 59 = .ok (.if_icmp .ne 7, 3) := by decide +kernel
theorem dX7_sortLot_62 : decode cX7_sortLot 62 = .ok (.iconst 1, 1) := by decide +kernel
theorem dX7_sortLot_63 : decode cX7_sortLot 63 = .ok (.goto 4, 3) := by decide +kernel
theorem dX7_sortLot_66 : decode cX7_sortLot 66 = .ok (.iconst 0, 1) := by decide +kernel
theorem dX7_sortLot_67 : decode cX7_sortLot 67 = .ok (.istore 6, 2) := by decide +kernel
theorem dX7_sortLot_69 : decode cX7_sortLot 69 = .ok (.aload_n 2, 1) := by decide +kernel
theorem dX7_sortLot_70 : decode cX7_sortLot 70 = .ok (.getfield 137, 3) := by decide +kernel
theorem dX7_sortLot_73 : decode cX7_sortLot 73 = .ok (.iload 5, 2) := by decide +kernel
theorem dX7_sortLot_75 : decode cX7_sortLot 75 = .ok (.iaload, 1) := by decide +kernel
theorem dX7_sortLot_76 : decode cX7_sortLot 76 = .ok (.ifCond .ne 20, 3) := by decide +kernel
theorem dX7_sortLot_79 : decode cX7_sortLot 79 = .ok (.aload_n 2, 1) := by decide +kernel
theorem dX7_sortLot_80 : decode cX7_sortLot 80 = .ok (.iload 5, 2) := by decide +kernel
theorem dX7_sortLot_82 : decode cX7_sortLot 82 = .ok (.aload_n 3, 1) := by decide +kernel
theorem dX7_sortLot_83 : decode cX7_sortLot 83 = .ok (.getfield 79, 3) := by decide +kernel
theorem dX7_sortLot_86 : decode cX7_sortLot 86 = .ok (.invokevirtual 180, 3) := by decide +kernel
theorem dX7_sortLot_89 : decode cX7_sortLot 89 = .ok (.ifCond .eq 7, 3) := by decide +kernel
theorem dX7_sortLot_92 : decode cX7_sortLot 92 = .ok (.iconst 1, 1) := by decide +kernel
theorem dX7_sortLot_93 : decode cX7_sortLot 93 = .ok (.goto 4, 3) := by decide +kernel
theorem dX7_sortLot_96 : decode cX7_sortLot 96 = .ok (.iconst 0, 1) := by decide +kernel
theorem dX7_sortLot_97 : decode cX7_sortLot 97 = .ok (.istore 7, 2) := by decide +kernel
theorem dX7_sortLot_99 : decode cX7_sortLot 99 = .ok (.iload 7, 2) := by decide +kernel
theorem dX7_sortLot_101 : decode cX7_sortLot 101 = .ok (.ifCond .eq 22, 3) := by decide +kernel
theorem dX7_sortLot_104 : decode cX7_sortLot 104 = .ok (.aload_n 0, 1) := by decide +kernel
theorem dX7_sortLot_105 : decode cX7_sortLot 105 = .ok (.iload_n 1, 1) := by decide +kernel
theorem dX7_sortLot_106 : decode cX7_sortLot 106 = .ok (.iload 5, 2) := by decide +kernel
theorem dX7_sortLot_108 : decode cX7_sortLot 108 = .ok (.aload_n 2, 1) := by decide +kernel
theorem dX7_sortLot_109 : decode cX7_sortLot 109 = .ok (.getfield 147, 3) := by decide +kernel
theorem dX7_sortLot_112 : decode cX7_sortLot 112 = .ok (.iload 5, 2) := by decide +kernel
theorem dX7_sortLot_114 : decode cX7_sortLot 114 = .ok (.iaload, 1) := by decide +kernel
theorem dX7_sortLot_115 : decode cX7_sortLot 115 = .ok (.aload_n 3, 1) := by decide +kernel
theorem dX7_sortLot_116 : decode cX7_sortLot 116 = .ok (.getfield 79, 3) := by decide +kernel
theorem dX7_sortLot_119 : decode cX7_sortLot 119 = .ok (.iand, 1) := by decide +kernel
theorem dX7_sortLot_120 : decode cX7_sortLot 120 = .ok (.invokevirtual 183, 3) := by decide +kernel
theorem dX7_sortLot_123 : decode cX7_sortLot 123 = .ok (.iload 7, 2) := by decide +kernel
theorem dX7_sortLot_125 : decode cX7_sortLot 125 = .ok (.ifCond .ne 8, 3) := by decide +kernel
theorem dX7_sortLot_128 : decode cX7_sortLot 128 = .ok (.iload 6, 2) := by decide +kernel
theorem dX7_sortLot_130 : decode cX7_sortLot 130 = .ok (.ifCond .eq 25, 3) := by decide +kernel
theorem dX7_sortLot_133 : decode cX7_sortLot 133 = .ok (.aload_n 0, 1) := by decide +kernel
theorem dX7_sortLot_134 : decode cX7_sortLot 134 = .ok (.aload_n 2, 1) := by decide +kernel
theorem dX7_sortLot_135 : decode cX7_sortLot 135 = .ok (.iload 5, 2) := by decide +kernel
theorem dX7_sortLot_137 : decode cX7_sortLot 137 = .ok (.aload_n 3, 1) := by decide +kernel
theorem dX7_sortLot_138 : decode cX7_sortLot 138 = .ok (.invokevirtual 201, 3) := by decide +kernel
theorem dX7_sortLot_141 : decode cX7_sortLot 141 = .ok (.ifCond .ne 14, 3) := by decide +kernel
theorem dX7_sortLot_144 : decode cX7_sortLot 144 = .ok (.aload_n 2, 1) := by decide +kernel
theorem dX7_sortLot_145 : decode cX7_sortLot 145 = .ok (.getfield 137, 3) := by decide +kernel
theorem dX7_sortLot_148 : decode cX7_sortLot 148 = .ok (.iload 5, 2) := by decide +kernel
theorem dX7_sortLot_150 : decode cX7_sortLot 150 = .ok (.iconst 2, 1) := by decide +kernel
theorem dX7_sortLot_151 : decode cX7_sortLot 151 = .ok (.iastore, 1) := by decide +kernel
theorem dX7_sortLot_152 : decode cX7_sortLot 152 = .ok (.iinc 4 1, 3) := by decide +kernel
theorem dX7_sortLot_155 : decode cX7_sortLot 155 = .ok (.iinc 5 1, 3) := by decide +kernel
theorem dX7_sortLot_158 : decode cX7_sortLot 158 = .ok (.goto (-116), 3) := by decide +kernel
theorem dX7_sortLot_161 : decode cX7_sortLot 161 = .ok (.aload_n 2, 1) := by decide +kernel
theorem dX7_sortLot_162 : decode cX7_sortLot 162 = .ok (.iconst 0, 1) := by decide +kernel
theorem dX7_sortLot_163 : decode cX7_sortLot 163 = .ok (.putfield 108, 3) := by decide +kernel
theorem dX7_sortLot_166 : decode cX7_sortLot 166 = .ok (.iload 4, 2) := by decide +kernel
theorem dX7_sortLot_168 : decode cX7_sortLot 168 = .ok (.ireturn, 1) := by decide +kernel
theorem dX7_isRepaired_0 : decode cX7_isRepaired 0 = .ok (.aload_n 1, 1) := by decide +kernel
theorem dX7_isRepaired_1 : decode cX7_isRepaired 1 = .ok (.getfield 147, 3) := by decide +kernel
theorem dX7_isRepaired_4 : decode cX7_isRepaired 4 = .ok (.iload_n 2, 1) := by decide +kernel
theorem dX7_isRepaired_5 : decode cX7_isRepaired 5 = .ok (.iaload, 1) := by decide +kernel
theorem dX7_isRepaired_6 : decode cX7_isRepaired 6 = .ok (.aload_n 3, 1) := by decide +kernel
theorem dX7_isRepaired_7 : decode cX7_isRepaired 7 = .ok (.getfield 79, 3) := by decide +kernel
theorem dX7_isRepaired_10 : decode cX7_isRepaired 10 = .ok (.iand, 1) := by decide +kernel
theorem dX7_isRepaired_11 : decode cX7_isRepaired 11 = .ok (.aload_n 3, 1) := by decide +kernel
theorem dX7_isRepaired_12 : decode cX7_isRepaired 12 = .ok (.getfield 95, 3) := by decide +kernel
theorem dX7_isRepaired_15 : decode cX7_isRepaired 15 = .ok (.iconst (-1), 1) := by decide +kernel
theorem dX7_isRepaired_16 : decode cX7_isRepaired 16 = .ok (.ixor, 1) := by decide +kernel
theorem dX7_isRepaired_17 : decode cX7_isRepaired 17 = .ok (.iand, 1) := by decide +kernel
theorem dX7_isRepaired_18 : decode cX7_isRepaired 18 = .ok (.istore 4, 2) := by decide +kernel
theorem dX7_isRepaired_20 : decode cX7_isRepaired 20 = .ok (.iload 4, 2) := by decide +kernel
theorem dX7_isRepaired_22 : decode cX7_isRepaired 22 = .ok (.ifCond .ne 13, 3) := by decide +kernel
theorem dX7_isRepaired_25 : decode cX7_isRepaired 25 = .ok (.aload_n 1, 1) := by decide +kernel
theorem dX7_isRepaired_26 : decode cX7_isRepaired 26 = .ok (.getfield 205, 3) := by decide +kernel
theorem dX7_isRepaired_29 : decode cX7_isRepaired 29 = .ok (.iload_n 2, 1) := by decide +kernel
theorem dX7_isRepaired_30 : decode cX7_isRepaired 30 = .ok (.iaload, 1) := by decide +kernel
theorem dX7_isRepaired_31 : decode cX7_isRepaired 31 = .ok (.iconst 2, 1) := by decide +kernel
theorem dX7_isRepaired_32 : decode cX7_isRepaired 32 = .ok (.if_icmp .lt 5, 3) := by decide +kernel
theorem dX7_isRepaired_35 : decode cX7_isRepaired 35 = .ok (.iconst 0, 1) := by decide +kernel
theorem dX7_isRepaired_36 : decode cX7_isRepaired 36 = .ok (.ireturn, 1) := by decide +kernel
theorem dX7_isRepaired_37 : decode cX7_isRepaired 37 = .ok (.aload_n 1, 1) := by decide +kernel
theorem dX7_isRepaired_38 : decode cX7_isRepaired 38 = .ok (.iload_n 2, 1) := by decide +kernel
theorem dX7_isRepaired_39 : decode cX7_isRepaired 39 = .ok (.aload_n 3, 1) := by decide +kernel
theorem dX7_isRepaired_40 : decode cX7_isRepaired 40 = .ok (.getfield 95, 3) := by decide +kernel
theorem dX7_isRepaired_43 : decode cX7_isRepaired 43 = .ok (.invokevirtual 207, 3) := by decide +kernel
theorem dX7_isRepaired_46 : decode cX7_isRepaired 46 = .ok (.aload_n 1, 1) := by decide +kernel
theorem dX7_isRepaired_47 : decode cX7_isRepaired 47 = .ok (.getfield 205, 3) := by decide +kernel
theorem dX7_isRepaired_50 : decode cX7_isRepaired 50 = .ok (.iload_n 2, 1) := by decide +kernel
theorem dX7_isRepaired_51 : decode cX7_isRepaired 51 = .ok (.dup2, 1) := by decide +kernel
theorem dX7_isRepaired_52 : decode cX7_isRepaired 52 = .ok (.iaload, 1) := by decide +kernel
theorem dX7_isRepaired_53 : decode cX7_isRepaired 53 = .ok (.iconst 1, 1) := by decide +kernel
theorem dX7_isRepaired_54 : decode cX7_isRepaired 54 = .ok (.iadd, 1) := by decide +kernel
theorem dX7_isRepaired_55 : decode cX7_isRepaired 55 = .ok (.iastore, 1) := by decide +kernel
theorem dX7_isRepaired_56 : decode cX7_isRepaired 56 = .ok (.aload_n 1, 1) := by decide +kernel
theorem dX7_isRepaired_57 : decode cX7_isRepaired 57 = .ok (.getfield 137, 3) := by decide +kernel
theorem dX7_isRepaired_60 : decode cX7_isRepaired 60 = .ok (.iload_n 2, 1) := by decide +kernel
theorem dX7_isRepaired_61 : decode cX7_isRepaired 61 = .ok (.iconst 0, 1) := by decide +kernel
theorem dX7_isRepaired_62 : decode cX7_isRepaired 62 = .ok (.iastore, 1) := by decide +kernel
theorem dX7_isRepaired_63 : decode cX7_isRepaired 63 = .ok (.aload_n 0, 1) := by decide +kernel
theorem dX7_isRepaired_64 : decode cX7_isRepaired 64 = .ok (.dup, 1) := by decide +kernel
theorem dX7_isRepaired_65 : decode cX7_isRepaired 65 = .ok (.getfield 68, 3) := by decide +kernel
theorem dX7_isRepaired_68 : decode cX7_isRepaired 68 = .ok (.iconst 1, 1) := by decide +kernel
theorem dX7_isRepaired_69 : decode cX7_isRepaired 69 = .ok (.iadd, 1) := by decide +kernel
theorem dX7_isRepaired_70 : decode cX7_isRepaired 70 = .ok (.putfield 68, 3) := by decide +kernel
theorem dX7_isRepaired_73 : decode cX7_isRepaired 73 = .ok (.aload_n 0, 1) := by decide +kernel
theorem dX7_isRepaired_74 : decode cX7_isRepaired 74 = .ok (.getfield 68, 3) := by decide +kernel
theorem dX7_isRepaired_77 : decode cX7_isRepaired 77 = .ok (.bipush 7, 2) := by decide +kernel
theorem dX7_isRepaired_79 : decode cX7_isRepaired 79 = .ok (.irem, 1) := by decide +kernel
theorem dX7_isRepaired_80 : decode cX7_isRepaired 80 = .ok (.ifCond .ne 8, 3) := by decide +kernel
theorem dX7_isRepaired_83 : decode cX7_isRepaired 83 = .ok (.aload_n 1, 1) := by decide +kernel
theorem dX7_isRepaired_84 : decode cX7_isRepaired 84 = .ok (.iload_n 2, 1) := by decide +kernel
theorem dX7_isRepaired_85 : decode cX7_isRepaired 85 = .ok (.invokevirtual 210, 3) := by decide +kernel
theorem dX7_isRepaired_88 : decode cX7_isRepaired 88 = .ok (.iconst 1, 1) := by decide +kernel
theorem dX7_isRepaired_89 : decode cX7_isRepaired 89 = .ok (.ireturn, 1) := by decide +kernel
theorem dX7_shipLot_0 : decode cX7_shipLot 0 = .ok (.aload_n 0, 1) := by decide +kernel
theorem dX7_shipLot_1 : decode cX7_shipLot 1 = .ok (.iload_n 1, 1) := by decide +kernel
theorem dX7_shipLot_2 : decode cX7_shipLot 2 = .ok (.invokevirtual 105, 3) := by decide +kernel
theorem dX7_shipLot_5 : decode cX7_shipLot 5 = .ok (.astore_n 2, 1) := by decide +kernel
theorem dX7_shipLot_6 : decode cX7_shipLot 6 = .ok (.aload_n 2, 1) := by decide +kernel
theorem dX7_shipLot_7 : decode cX7_shipLot 7 = .ok (.ifnonnull 5, 3) := by decide +kernel
theorem dX7_shipLot_10 : decode cX7_shipLot 10 = .ok (.iconst (-1), 1) := by decide +kernel
theorem dX7_shipLot_11 : decode cX7_shipLot 11 = .ok (.ireturn, 1) := by decide +kernel
theorem dX7_shipLot_12 : decode cX7_shipLot 12 = .ok (.aload_n 2, 1) := by decide +kernel
theorem dX7_shipLot_13 : decode cX7_shipLot 13 = .ok (.iconst 0, 1) := by decide +kernel
theorem dX7_shipLot_14 : decode cX7_shipLot 14 = .ok (.invokevirtual 127, 3) := by decide +kernel
theorem dX7_shipLot_17 : decode cX7_shipLot 17 = .ok (.istore_n 3, 1) := by decide +kernel
theorem dX7_shipLot_18 : decode cX7_shipLot 18 = .ok (.aload_n 2, 1) := by decide +kernel
theorem dX7_shipLot_19 : decode cX7_shipLot 19 = .ok (.getfield 108, 3) := by decide +kernel
theorem dX7_shipLot_22 : decode cX7_shipLot 22 = .ok (.iconst 1, 1) := by decide +kernel
theorem dX7_shipLot_23 : decode cX7_shipLot 23 = .ok (.if_icmp .ne 7, 3) := by decide +kernel
theorem dX7_shipLot_26 : decode cX7_shipLot 26 = .ok (.iload_n 3, 1) := by decide +kernel
theorem dX7_shipLot_27 : decode cX7_shipLot 27 = .ok (.ifCond .ne 6, 3) := by decide +kernel
theorem dX7_shipLot_30 : decode cX7_shipLot 30 = .ok (.bipush (-3), 2) := by decide +kernel
theorem dX7_shipLot_32 : decode cX7_shipLot 32 = .ok (.ireturn, 1) := by decide +kernel
theorem dX7_shipLot_33 : decode cX7_shipLot 33 = .ok (.iconst 0, 1) := by decide +kernel
theorem dX7_shipLot_34 : decode cX7_shipLot 34 = .ok (.istore 4, 2) := by decide +kernel
theorem dX7_shipLot_36 : decode cX7_shipLot 36 = .ok (.iload 4, 2) := by decide +kernel
theorem dX7_shipLot_38 : decode cX7_shipLot 38 = .ok (.aload_n 2, 1) := by decide +kernel
theorem dX7_shipLot_39 : decode cX7_shipLot 39 = .ok (.getfield 134, 3) := by decide +kernel
theorem dX7_shipLot_42 : decode cX7_shipLot 42 = .ok (.if_icmp .ge 27, 3) := by decide +kernel
theorem dX7_shipLot_45 : decode cX7_shipLot 45 = .ok (.aload_n 2, 1) := by decide +kernel
theorem dX7_shipLot_46 : decode cX7_shipLot 46 = .ok (.getfield 137, 3) := by decide +kernel
theorem dX7_shipLot_49 : decode cX7_shipLot 49 = .ok (.iload 4, 2) := by decide +kernel
theorem dX7_shipLot_51 : decode cX7_shipLot 51 = .ok (.iaload, 1) := by decide +kernel
theorem dX7_shipLot_52 : decode cX7_shipLot 52 = .ok (.ifCond .ne 11, 3) := by decide +kernel
theorem dX7_shipLot_55 : decode cX7_shipLot 55 = .ok (.aload_n 2, 1) := by decide +kernel
theorem dX7_shipLot_56 : decode cX7_shipLot 56 = .ok (.getfield 137, 3) := by decide +kernel
theorem dX7_shipLot_59 : decode cX7_shipLot 59 = .ok (.iload 4, 2) := by decide +kernel
theorem dX7_shipLot_61 : decode cX7_shipLot 61 = .ok (.iconst 4, 1) := by decide +kernel
theorem dX7_shipLot_62 : decode cX7_shipLot 62 = .ok (.iastore, 1) := by decide +kernel
theorem dX7_shipLot_63 : decode cX7_shipLot 63 = .ok (.iinc 4 1, 3) := by decide +kernel
theorem dX7_shipLot_66 : decode cX7_shipLot 66 = .ok (.goto (-30), 3) := by decide +kernel
theorem dX7_shipLot_69 : decode cX7_shipLot 69 = .ok (.aload_n 2, 1) := by decide +kernel
theorem dX7_shipLot_70 : decode cX7_shipLot 70 = .ok (.iconst 3, 1) := by decide +kernel
theorem dX7_shipLot_71 : decode cX7_shipLot 71 = .ok (.putfield 108, 3) := by decide +kernel
theorem dX7_shipLot_74 : decode cX7_shipLot 74 = .ok (.iload_n 3, 1) := by decide +kernel
theorem dX7_shipLot_75 : decode cX7_shipLot 75 = .ok (.ireturn, 1) := by decide +kernel
theorem dX7_putDownComplaint_0 : decode cX7_putDownComplaint 0 = .ok (.aload_n 0, 1) := by decide +kernel
theorem dX7_putDownComplaint_1 : decode cX7_putDownComplaint 1 = .ok (.iload_n 1, 1) := by decide +kernel
theorem dX7_putDownComplaint_2 : decode cX7_putDownComplaint 2 = .ok (.invokevirtual 105, 3) := by decide +kernel
theorem dX7_putDownComplaint_5 : decode cX7_putDownComplaint 5 = .ok (.astore_n 3, 1) := by decide +kernel
theorem dX7_putDownComplaint_6 : decode cX7_putDownComplaint 6 = .ok (.aload_n 3, 1) := by decide +kernel
theorem dX7_putDownComplaint_7 : decode cX7_putDownComplaint 7 = .ok (.ifnull 11, 3) := by decide +kernel
theorem dX7_putDownComplaint_10 : decode cX7_putDownComplaint 10 = .ok (.aload_n 3, 1) := by decide +kernel
theorem dX7_putDownComplaint_11 : decode cX7_putDownComplaint 11 = .ok (.iload_n 2, 1) := by decide +kernel
theorem dX7_putDownComplaint_12 : decode cX7_putDownComplaint 12 = .ok (.invokevirtual 213, 3) := by decide +kernel
theorem dX7_putDownComplaint_15 : decode cX7_putDownComplaint 15 = .ok (.ifCond .ne 5, 3) := by decide +kernel
theorem dX7_putDownComplaint_18 : decode cX7_putDownComplaint 18 = .ok (.iconst (-1), 1) := by decide +kernel
theorem dX7_putDownComplaint_19 : decode cX7_putDownComplaint 19 = .ok (.ireturn, 1) := by decide +kernel
theorem dX7_putDownComplaint_20 : decode cX7_putDownComplaint 20 = .ok (.aload_n 3, 1) := by decide +kernel
theorem dX7_putDownComplaint_21 : decode cX7_putDownComplaint 21 = .ok (.getfield 137, 3) := by decide +kernel
theorem dX7_putDownComplaint_24 : decode cX7_putDownComplaint 24 = .ok (.iload_n 2, 1) := by decide +kernel
theorem dX7_putDownComplaint_25 : decode cX7_putDownComplaint 25 = .ok (.iaload, 1) := by decide +kernel
theorem dX7_putDownComplaint_26 : decode cX7_putDownComplaint 26 = .ok (.iconst 4, 1) := by decide +kernel
theorem dX7_putDownComplaint_27 : decode cX7_putDownComplaint 27 = .ok (.if_icmp .ne 12, 3) := by decide +kernel
theorem dX7_putDownComplaint_30 : decode cX7_putDownComplaint 30 = .ok (.aload_n 3, 1) := by decide +kernel
theorem dX7_putDownComplaint_31 : decode cX7_putDownComplaint 31 = .ok (.getfield 217, 3) := by decide +kernel
theorem dX7_putDownComplaint_34 : decode cX7_putDownComplaint 34 = .ok (.iload_n 2, 1) := by decide +kernel
theorem dX7_putDownComplaint_35 : decode cX7_putDownComplaint 35 = .ok (.iaload, 1) := by decide +kernel
theorem dX7_putDownComplaint_36 : decode cX7_putDownComplaint 36 = .ok (.ifCond .eq 6, 3) := by decide +kernel
theorem dX7_putDownComplaint_39 : decode cX7_putDownComplaint 39 = .ok (.bipush (-3), 2) := by decide +kernel
theorem dX7_putDownComplaint_41 : decode cX7_putDownComplaint 41 = .ok (.ireturn, 1) := by decide +kernel
theorem dX7_putDownComplaint_42 : decode cX7_putDownComplaint 42 = .ok (.aload_n 3, 1) := by decide +kernel
theorem dX7_putDownComplaint_43 : decode cX7_putDownComplaint 43 = .ok (.getfield 147, 3) := by decide +kernel
theorem dX7_putDownComplaint_46 : decode cX7_putDownComplaint 46 = .ok (.iload_n 2, 1) := by decide +kernel
theorem dX7_putDownComplaint_47 : decode cX7_putDownComplaint 47 = .ok (.iaload, 1) := by decide +kernel
theorem dX7_putDownComplaint_48 : decode cX7_putDownComplaint 48 = .ok (.ifCond .ne 6, 3) := by decide +kernel
theorem dX7_putDownComplaint_51 : decode cX7_putDownComplaint 51 = .ok (.bipush (-4), 2) := by decide +kernel
theorem dX7_putDownComplaint_53 : decode cX7_putDownComplaint 53 = .ok (.ireturn, 1) := by decide +kernel
theorem dX7_putDownComplaint_54 : decode cX7_putDownComplaint 54 = .ok (.aload_n 3, 1) := by decide +kernel
theorem dX7_putDownComplaint_55 : decode cX7_putDownComplaint 55 = .ok (.getfield 217, 3) := by decide +kernel
theorem dX7_putDownComplaint_58 : decode cX7_putDownComplaint 58 = .ok (.iload_n 2, 1) := by decide +kernel
theorem dX7_putDownComplaint_59 : decode cX7_putDownComplaint 59 = .ok (.iconst 1, 1) := by decide +kernel
theorem dX7_putDownComplaint_60 : decode cX7_putDownComplaint 60 = .ok (.iastore, 1) := by decide +kernel
theorem dX7_putDownComplaint_61 : decode cX7_putDownComplaint 61 = .ok (.aload_n 0, 1) := by decide +kernel
theorem dX7_putDownComplaint_62 : decode cX7_putDownComplaint 62 = .ok (.dup, 1) := by decide +kernel
theorem dX7_putDownComplaint_63 : decode cX7_putDownComplaint 63 = .ok (.getfield 65, 3) := by decide +kernel
theorem dX7_putDownComplaint_66 : decode cX7_putDownComplaint 66 = .ok (.iconst 1, 1) := by decide +kernel
theorem dX7_putDownComplaint_67 : decode cX7_putDownComplaint 67 = .ok (.iadd, 1) := by decide +kernel
theorem dX7_putDownComplaint_68 : decode cX7_putDownComplaint 68 = .ok (.putfield 65, 3) := by decide +kernel
theorem dX7_putDownComplaint_71 : decode cX7_putDownComplaint 71 = .ok (.aload_n 0, 1) := by decide +kernel
theorem dX7_putDownComplaint_72 : decode cX7_putDownComplaint 72 = .ok (.iload_n 1, 1) := by decide +kernel
theorem dX7_putDownComplaint_73 : decode cX7_putDownComplaint 73 = .ok (.iload_n 2, 1) := by decide +kernel
theorem dX7_putDownComplaint_74 : decode cX7_putDownComplaint 74 = .ok (.aload_n 3, 1) := by decide +kernel
theorem dX7_putDownComplaint_75 : decode cX7_putDownComplaint 75 = .ok (.getfield 147, 3) := by decide +kernel
theorem dX7_putDownComplaint_78 : decode cX7_putDownComplaint 78 = .ok (.iload_n 2, 1) := by decide +kernel
theorem dX7_putDownComplaint_79 : decode cX7_putDownComplaint 79 = .ok (.iaload, 1) := by decide +kernel
theorem dX7_putDownComplaint_80 : decode cX7_putDownComplaint 80 = .ok (.invokevirtual 183, 3) := by decide +kernel
theorem dX7_putDownComplaint_83 : decode cX7_putDownComplaint 83 = .ok (.aload_n 0, 1) := by decide +kernel
theorem dX7_putDownComplaint_84 : decode cX7_putDownComplaint 84 = .ok (.getfield 65, 3) := by decide +kernel
theorem dX7_putDownComplaint_87 : decode cX7_putDownComplaint 87 = .ok (.ireturn, 1) := by decide +kernel
theorem dX7_blameDefects_0 : decode cX7_blameDefects 0 = .ok (.iconst 0, 1) := by decide +kernel
theorem dX7_blameDefects_1 : decode cX7_blameDefects 1 = .ok (.istore 4, 2) := by decide +kernel
theorem dX7_blameDefects_3 : decode cX7_blameDefects 3 = .ok (.iload 4, 2) := by decide +kernel
theorem dX7_blameDefects_5 : decode cX7_blameDefects 5 = .ok (.iconst 4, 1) := by decide +kernel
theorem dX7_blameDefects_6 : decode cX7_blameDefects 6 = .ok (.if_icmp .ge 72, 3) := by decide +kernel
theorem dX7_blameDefects_9 : decode cX7_blameDefects 9 = .ok (.iload_n 3, 1) := by decide +kernel
theorem dX7_blameDefects_10 : decode cX7_blameDefects 10 = .ok (.iconst 1, 1) := by decide +kernel
theorem dX7_blameDefects_11 : decode cX7_blameDefects 11 = .ok (.iload 4, 2) := by decide +kernel
theorem dX7_blameDefects_13 : decode cX7_blameDefects 13 = .ok (.ishl, 1) := by decide +kernel
theorem dX7_blameDefects_14 : decode cX7_blameDefects 14 = .ok (.iand, 1) := by decide +kernel
theorem dX7_blameDefects_15 : decode cX7_blameDefects 15 = .ok (.ifCond .eq 57, 3) := by decide +kernel
theorem dX7_blameDefects_18 : decode cX7_blameDefects 18 = .ok (.aload_n 0, 1) := by decide +kernel
theorem dX7_blameDefects_19 : decode cX7_blameDefects 19 = .ok (.aload_n 0, 1) := by decide +kernel
theorem dX7_blameDefects_20 : decode cX7_blameDefects 20 = .ok (.iload_n 1, 1) := by decide +kernel
theorem dX7_blameDefects_21 : decode cX7_blameDefects 21 = .ok (.iload_n 2, 1) := by decide +kernel
theorem dX7_blameDefects_22 : decode cX7_blameDefects 22 = .ok (.invokestatic 143, 3) := by decide +kernel
theorem dX7_blameDefects_25 : decode cX7_blameDefects 25 = .ok (.iload 4, 2) := by decide +kernel
theorem dX7_blameDefects_27 : decode cX7_blameDefects 27 = .ok (.invokevirtual 220, 3) := by decide +kernel
theorem dX7_blameDefects_30 : decode cX7_blameDefects 30 = .ok (.iload 4, 2) := by decide +kernel
theorem dX7_blameDefects_32 : decode cX7_blameDefects 32 = .ok (.invokevirtual 223, 3) := by decide +kernel
theorem dX7_blameDefects_35 : decode cX7_blameDefects 35 = .ok (.istore 5, 2) := by decide +kernel
theorem dX7_blameDefects_37 : decode cX7_blameDefects 37 = .ok (.iload 5, 2) := by decide +kernel
theorem dX7_blameDefects_39 : decode cX7_blameDefects 39 = .ok (.iconst 4, 1) := by decide +kernel
theorem dX7_blameDefects_40 : decode cX7_blameDefects 40 = .ok (.imul, 1) := by decide +kernel
theorem dX7_blameDefects_41 : decode cX7_blameDefects 41 = .ok (.iload 4, 2) := by decide +kernel
theorem dX7_blameDefects_43 : decode cX7_blameDefects 43 = .ok (.iadd, 1) := by decide +kernel
theorem dX7_blameDefects_44 : decode cX7_blameDefects 44 = .ok (.istore 6, 2) := by decide +kernel
theorem dX7_blameDefects_46 : decode cX7_blameDefects 46 = .ok (.iload 6, 2) := by decide +kernel
theorem dX7_blameDefects_48 : decode cX7_blameDefects 48 = .ok (.ifCond .lt 24, 3) := by decide +kernel
theorem dX7_blameDefects_51 : decode cX7_blameDefects 51 = .ok (.iload 6, 2) := by decide +kernel
theorem dX7_blameDefects_53 : decode cX7_blameDefects 53 = .ok (.aload_n 0, 1) := by decide +kernel
theorem dX7_blameDefects_54 : decode cX7_blameDefects 54 = .ok (.getfield 29, 3) := by decide +kernel
theorem dX7_blameDefects_57 : decode cX7_blameDefects 57 = .ok (.arraylength, 1) := by decide +kernel
theorem dX7_blameDefects_58 : decode cX7_blameDefects 58 = .ok (.if_icmp .ge 14, 3) := by decide +kernel
theorem dX7_blameDefects_61 : decode cX7_blameDefects 61 = .ok (.aload_n 0, 1) := by decide +kernel
theorem dX7_blameDefects_62 : decode cX7_blameDefects 62 = .ok (.getfield 29, 3) := by decide +kernel
theorem dX7_blameDefects_65 : decode cX7_blameDefects 65 = .ok (.iload 6, 2) := by decide +kernel
theorem dX7_blameDefects_67 : decode cX7_blameDefects 67 = .ok (.dup2, 1) := by decide +kernel
theorem dX7_blameDefects_68 : decode cX7_blameDefects 68 = .ok (.iaload, 1) := by decide +kernel
theorem dX7_blameDefects_69 : decode cX7_blameDefects 69 = .ok (.iconst 1, 1) := by decide +kernel
theorem dX7_blameDefects_70 : decode cX7_blameDefects 70 = .ok (.iadd, 1) := by decide +kernel
theorem dX7_blameDefects_71 : decode cX7_blameDefects 71 = .ok (.iastore, 1) := by decide +kernel
theorem dX7_blameDefects_72 : decode cX7_blameDefects 72 = .ok (.iinc 4 1, 3) := by decide +kernel
theorem dX7_blameDefects_75 : decode cX7_blameDefects 75 = .ok (.goto (-72), 3) := by decide +kernel
theorem dX7_blameDefects_78 : decode cX7_blameDefects 78 = .ok (.return_, 1) := by decide +kernel
theorem dX7_originOf_0 : decode cX7_originOf 0 = .ok (.iload_n 1, 1) := by decide +kernel
theorem dX7_originOf_1 : decode cX7_originOf 1 = .ok (.istore_n 3, 1) := by decide +kernel
theorem dX7_originOf_2 : decode cX7_originOf 2 = .ok (.iconst 0, 1) := by decide +kernel
theorem dX7_originOf_3 : decode cX7_originOf 3 = .ok (.istore 4, 2) := by decide +kernel
theorem dX7_originOf_5 : decode cX7_originOf 5 = .ok (.iload 4, 2) := by decide +kernel
theorem dX7_originOf_7 : decode cX7_originOf 7 = .ok (.bipush 24, 2) := by decide +kernel
theorem dX7_originOf_9 : decode cX7_originOf 9 = .ok (.if_icmp .ge 27, 3) := by decide +kernel
theorem dX7_originOf_12 : decode cX7_originOf 12 = .ok (.aload_n 0, 1) := by decide +kernel
theorem dX7_originOf_13 : decode cX7_originOf 13 = .ok (.iload_n 3, 1) := by decide +kernel
theorem dX7_originOf_14 : decode cX7_originOf 14 = .ok (.iload_n 2, 1) := by decide +kernel
theorem dX7_originOf_15 : decode cX7_originOf 15 = .ok (.invokevirtual 226, 3) := by decide +kernel
theorem dX7_originOf_18 : decode cX7_originOf 18 = .ok (.istore 5, 2) := by decide +kernel
theorem dX7_originOf_20 : decode cX7_originOf 20 = .ok (.iload 5, 2) := by decide +kernel
theorem dX7_originOf_22 : decode cX7_originOf 22 = .ok (.ifCond .ge 5, 3) := by decide +kernel
theorem dX7_originOf_25 : decode cX7_originOf 25 = .ok (.iload_n 3, 1) := by decide +kernel
theorem dX7_originOf_26 : decode cX7_originOf 26 = .ok (.ireturn, 1) := by decide +kernel
theorem dX7_originOf_27 : decode cX7_originOf 27 = .ok (.iload 5, 2) := by decide +kernel
theorem dX7_originOf_29 : decode cX7_originOf 29 = .ok (.istore_n 3, 1) := by decide +kernel
theorem dX7_originOf_30 : decode cX7_originOf 30 = .ok (.iinc 4 1, 3) := by decide +kernel
theorem dX7_originOf_33 : decode cX7_originOf 33 = .ok (.goto (-28), 3) := by decide +kernel
theorem dX7_originOf_36 : decode cX7_originOf 36 = .ok (.iload_n 3, 1) := by decide +kernel
theorem dX7_originOf_37 : decode cX7_originOf 37 = .ok (.ireturn, 1) := by decide +kernel
theorem dX7_partWithDefect_0 : decode cX7_partWithDefect 0 = .ok (.iconst 1, 1) := by decide +kernel
theorem dX7_partWithDefect_1 : decode cX7_partWithDefect 1 = .ok (.iload_n 2, 1) := by decide +kernel
theorem dX7_partWithDefect_2 : decode cX7_partWithDefect 2 = .ok (.ishl, 1) := by decide +kernel
theorem dX7_partWithDefect_3 : decode cX7_partWithDefect 3 = .ok (.istore_n 3, 1) := by decide +kernel
theorem dX7_partWithDefect_4 : decode cX7_partWithDefect 4 = .ok (.iload_n 1, 1) := by decide +kernel
theorem dX7_partWithDefect_5 : decode cX7_partWithDefect 5 = .ok (.sipush 1000, 3) := by decide +kernel
theorem dX7_partWithDefect_8 : decode cX7_partWithDefect 8 = .ok (.irem, 1) := by decide +kernel
theorem dX7_partWithDefect_9 : decode cX7_partWithDefect 9 = .ok (.istore 4, 2) := by decide +kernel
theorem dX7_partWithDefect_11 : decode cX7_partWithDefect 11 = .ok (.aload_n 0, 1) := by decide +kernel
theorem dX7_partWithDefect_12 : decode cX7_partWithDefect 12 = .ok (.iload_n 1, 1) := by decide +kernel
theorem dX7_partWithDefect_13 : decode cX7_partWithDefect 13 = .ok (.sipush 1000, 3) := by decide +kernel
theorem dX7_partWithDefect_16 : decode cX7_partWithDefect 16 = .ok (.idiv, 1) := by decide +kernel
theorem dX7_partWithDefect_17 : decode cX7_partWithDefect 17 = .ok (.invokevirtual 105, 3) := by decide +kernel
theorem dX7_partWithDefect_20 : decode cX7_partWithDefect 20 = .ok (.astore 5, 2) := by decide +kernel
theorem dX7_partWithDefect_22 : decode cX7_partWithDefect 22 = .ok (.aload 5, 2) := by decide +kernel
theorem dX7_partWithDefect_24 : decode cX7_partWithDefect 24 = .ok (.ifnull 26, 3) := by decide +kernel
theorem dX7_partWithDefect_27 : decode cX7_partWithDefect 27 = .ok (.aload 5, 2) := by decide +kernel
theorem dX7_partWithDefect_29 : decode cX7_partWithDefect 29 = .ok (.iload 4, 2) := by decide +kernel
theorem dX7_partWithDefect_31 : decode cX7_partWithDefect 31 = .ok (.invokevirtual 213, 3) := by decide +kernel
theorem dX7_partWithDefect_34 : decode cX7_partWithDefect 34 = .ok (.ifCond .eq 16, 3) := by decide +kernel
theorem dX7_partWithDefect_37 : decode cX7_partWithDefect 37 = .ok (.aload 5, 2) := by decide +kernel
theorem dX7_partWithDefect_39 : decode cX7_partWithDefect 39 = .ok (.getfield 229, 3) := by decide +kernel
theorem dX7_partWithDefect_42 : decode cX7_partWithDefect 42 = .ok (.iload 4, 2) := by decide +kernel
theorem dX7_partWithDefect_44 : decode cX7_partWithDefect 44 = .ok (.iaload, 1) := by decide +kernel
theorem dX7_partWithDefect_45 : decode cX7_partWithDefect 45 = .ok (.iload_n 3, 1) := by decide +kernel
theorem dX7_partWithDefect_46 : decode cX7_partWithDefect 46 = .ok (.iand, 1) := by decide +kernel
theorem dX7_partWithDefect_47 : decode cX7_partWithDefect 47 = .ok (.ifCond .eq 5, 3) := by decide +kernel
theorem dX7_partWithDefect_50 : decode cX7_partWithDefect 50 = .ok (.iconst (-1), 1) := by decide +kernel
theorem dX7_partWithDefect_51 : decode cX7_partWithDefect 51 = .ok (.ireturn, 1) := by decide +kernel
theorem dX7_partWithDefect_52 : decode cX7_partWithDefect 52 = .ok (.iconst 0, 1) := by decide +kernel
theorem dX7_partWithDefect_53 : decode cX7_partWithDefect 53 = .ok (.istore 6, 2) := by decide +kernel
theorem dX7_partWithDefect_55 : decode cX7_partWithDefect 55 = .ok (.iload 6, 2) := by decide +kernel
theorem dX7_partWithDefect_57 : decode cX7_partWithDefect 57 = .ok (.aload 5, 2) := by decide +kernel
theorem dX7_partWithDefect_59 : decode cX7_partWithDefect 59 = .ok (.getfield 232, 3) := by decide +kernel
theorem dX7_partWithDefect_62 : decode cX7_partWithDefect 62 = .ok (.if_icmp .ge 83, 3) := by decide +kernel
theorem dX7_partWithDefect_65 : decode cX7_partWithDefect 65 = .ok (.iload 6, 2) := by decide +kernel
theorem dX7_partWithDefect_67 : decode cX7_partWithDefect 67 = .ok (.aload 5, 2) := by decide +kernel
theorem dX7_partWithDefect_69 : decode cX7_partWithDefect 69 = .ok (.getfield 235, 3) := by decide +kernel
theorem dX7_partWithDefect_72 : decode cX7_partWithDefect 72 = .ok (.arraylength, 1) := by decide +kernel
theorem dX7_partWithDefect_73 : decode cX7_partWithDefect 73 = .ok (.if_icmp .ge 72, 3) := by decide +kernel
theorem dX7_partWithDefect_76 : decode cX7_partWithDefect 76 = .ok (.aload_n 0, 1) := by decide +kernel
theorem dX7_partWithDefect_77 : decode cX7_partWithDefect 77 = .ok (.aload 5, 2) := by decide +kernel
theorem dX7_partWithDefect_79 : decode cX7_partWithDefect 79 = .ok (.getfield 235, 3) := by decide +kernel
theorem dX7_partWithDefect_82 : decode cX7_partWithDefect 82 = .ok (.iload 6, 2) := by decide +kernel
theorem dX7_partWithDefect_84 : decode cX7_partWithDefect 84 = .ok (.iaload, 1) := by decide +kernel
theorem dX7_partWithDefect_85 : decode cX7_partWithDefect 85 = .ok (.invokevirtual 105, 3) := by decide +kernel
theorem dX7_partWithDefect_88 : decode cX7_partWithDefect 88 = .ok (.astore 7, 2) := by decide +kernel
theorem dX7_partWithDefect_90 : decode cX7_partWithDefect 90 = .ok (.aload 7, 2) := by decide +kernel
theorem dX7_partWithDefect_92 : decode cX7_partWithDefect 92 = .ok (.ifnonnull 7, 3) := by decide +kernel
theorem dX7_partWithDefect_95 : decode cX7_partWithDefect 95 = .ok (.iconst (-1), 1) := by decide +kernel
theorem dX7_partWithDefect_96 : decode cX7_partWithDefect 96 = .ok (.goto 9, 3) := by decide +kernel
theorem dX7_partWithDefect_99 : decode cX7_partWithDefect 99 = .ok (.aload 7, 2) := by decide +kernel
theorem dX7_partWithDefect_101 : decode cX7_partWithDefect 101 = .ok (.iload_n 1, 1) := by decide +kernel
theorem dX7_partWithDefect_102 : decode cX7_partWithDefect 102 = .ok (.invokevirtual 238, 3) := by decide +kernel
theorem dX7_partWithDefect_105 : decode cX7_partWithDefect 105 = .ok (.istore 8, 2) := by decide +kernel
theorem dX7_partWithDefect_107 : decode cX7_partWithDefect 107 = .ok (.iload 8, 2) := by decide +kernel
theorem dX7_partWithDefect_109 : decode cX7_partWithDefect 109 = .ok (.ifCond .lt 30, 3) := by decide +kernel
theorem dX7_partWithDefect_112 : decode cX7_partWithDefect 112 = .ok (.aload 7, 2) := by decide +kernel
theorem dX7_partWithDefect_114 : decode cX7_partWithDefect 114 = .ok (.getfield 147, 3) := by decide +kernel
theorem dX7_partWithDefect_117 : decode cX7_partWithDefect 117 = .ok (.iload 8, 2) := by decide +kernel
theorem dX7_partWithDefect_119 : decode cX7_partWithDefect 119 = .ok (.iaload, 1) := by decide +kernel
theorem dX7_partWithDefect_120 : decode cX7_partWithDefect 120 = .ok (.iload_n 3, 1) := by decide +kernel
theorem dX7_partWithDefect_121 : decode cX7_partWithDefect 121 = .ok (.iand, 1) := by decide +kernel
theorem dX7_partWithDefect_122 : decode cX7_partWithDefect 122 = .ok (.ifCond .eq 17, 3) := by decide +kernel
theorem dX7_partWithDefect_125 : decode cX7_partWithDefect 125 = .ok (.aload 5, 2) := by decide +kernel
theorem dX7_partWithDefect_127 : decode cX7_partWithDefect 127 = .ok (.getfield 235, 3) := by decide +kernel
theorem dX7_partWithDefect_130 : decode cX7_partWithDefect 130 = .ok (.iload 6, 2) := by decide +kernel
theorem dX7_partWithDefect_132 : decode cX7_partWithDefect 132 = .ok (.iaload, 1) := by decide +kernel
theorem dX7_partWithDefect_133 : decode cX7_partWithDefect 133 = .ok (.iload 8, 2) := by decide +kernel
theorem dX7_partWithDefect_135 : decode cX7_partWithDefect 135 = .ok (.invokestatic 143, 3) := by decide +kernel
theorem dX7_partWithDefect_138 : decode cX7_partWithDefect 138 = .ok (.ireturn, 1) := by decide +kernel
theorem dX7_partWithDefect_139 : decode cX7_partWithDefect 139 = .ok (.iinc 6 1, 3) := by decide +kernel
theorem dX7_partWithDefect_142 : decode cX7_partWithDefect 142 = .ok (.goto (-87), 3) := by decide +kernel
theorem dX7_partWithDefect_145 : decode cX7_partWithDefect 145 = .ok (.iconst (-1), 1) := by decide +kernel
theorem dX7_partWithDefect_146 : decode cX7_partWithDefect 146 = .ok (.ireturn, 1) := by decide +kernel
theorem dX7_causeAt_0 : decode cX7_causeAt 0 = .ok (.iload_n 1, 1) := by decide +kernel
theorem dX7_causeAt_1 : decode cX7_causeAt 1 = .ok (.sipush 1000, 3) := by decide +kernel
theorem dX7_causeAt_4 : decode cX7_causeAt 4 = .ok (.irem, 1) := by decide +kernel
theorem dX7_causeAt_5 : decode cX7_causeAt 5 = .ok (.istore_n 3, 1) := by decide +kernel
theorem dX7_causeAt_6 : decode cX7_causeAt 6 = .ok (.aload_n 0, 1) := by decide +kernel
theorem dX7_causeAt_7 : decode cX7_causeAt 7 = .ok (.iload_n 1, 1) := by decide +kernel
theorem dX7_causeAt_8 : decode cX7_causeAt 8 = .ok (.sipush 1000, 3) := by decide +kernel
theorem dX7_causeAt_11 : decode cX7_causeAt 11 = .ok (.idiv, 1) := by decide +kernel
theorem dX7_causeAt_12 : decode cX7_causeAt 12 = .ok (.invokevirtual 105, 3) := by decide +kernel
theorem dX7_causeAt_15 : decode cX7_causeAt 15 = .ok (.astore 4, 2) := by decide +kernel
theorem dX7_causeAt_17 : decode cX7_causeAt 17 = .ok (.aload 4, 2) := by decide +kernel
theorem dX7_causeAt_19 : decode cX7_causeAt 19 = .ok (.ifnull 12, 3) := by decide +kernel
theorem dX7_causeAt_22 : decode cX7_causeAt 22 = .ok (.aload 4, 2) := by decide +kernel
theorem dX7_causeAt_24 : decode cX7_causeAt 24 = .ok (.iload_n 3, 1) := by decide +kernel
theorem dX7_causeAt_25 : decode cX7_causeAt 25 = .ok (.invokevirtual 213, 3) := by decide +kernel
theorem dX7_causeAt_28 : decode cX7_causeAt 28 = .ok (.ifCond .ne 5, 3) := by decide +kernel
theorem dX7_causeAt_31 : decode cX7_causeAt 31 = .ok (.iconst (-1), 1) := by decide +kernel
theorem dX7_causeAt_32 : decode cX7_causeAt 32 = .ok (.ireturn, 1) := by decide +kernel
theorem dX7_causeAt_33 : decode cX7_causeAt 33 = .ok (.aload 4, 2) := by decide +kernel
theorem dX7_causeAt_35 : decode cX7_causeAt 35 = .ok (.getfield 229, 3) := by decide +kernel
theorem dX7_causeAt_38 : decode cX7_causeAt 38 = .ok (.iload_n 3, 1) := by decide +kernel
theorem dX7_causeAt_39 : decode cX7_causeAt 39 = .ok (.iaload, 1) := by decide +kernel
theorem dX7_causeAt_40 : decode cX7_causeAt 40 = .ok (.iconst 1, 1) := by decide +kernel
theorem dX7_causeAt_41 : decode cX7_causeAt 41 = .ok (.iload_n 2, 1) := by decide +kernel
theorem dX7_causeAt_42 : decode cX7_causeAt 42 = .ok (.ishl, 1) := by decide +kernel
theorem dX7_causeAt_43 : decode cX7_causeAt 43 = .ok (.iand, 1) := by decide +kernel
theorem dX7_causeAt_44 : decode cX7_causeAt 44 = .ok (.ifCond .eq 8, 3) := by decide +kernel
theorem dX7_causeAt_47 : decode cX7_causeAt 47 = .ok (.bipush 6, 2) := by decide +kernel
theorem dX7_causeAt_49 : decode cX7_causeAt 49 = .ok (.goto 8, 3) := by decide +kernel
theorem dX7_causeAt_52 : decode cX7_causeAt 52 = .ok (.aload 4, 2) := by decide +kernel
theorem dX7_causeAt_54 : decode cX7_causeAt 54 = .ok (.getfield 241, 3) := by decide +kernel
theorem dX7_causeAt_57 : decode cX7_causeAt 57 = .ok (.ireturn, 1) := by decide +kernel
theorem dX7_partOf_0 : decode cX7_partOf 0 = .ok (.aload_n 0, 1) := by decide +kernel
theorem dX7_partOf_1 : decode cX7_partOf 1 = .ok (.iload_n 1, 1) := by decide +kernel
theorem dX7_partOf_2 : decode cX7_partOf 2 = .ok (.invokevirtual 105, 3) := by decide +kernel
theorem dX7_partOf_5 : decode cX7_partOf 5 = .ok (.astore 4, 2) := by decide +kernel
theorem dX7_partOf_7 : decode cX7_partOf 7 = .ok (.aload 4, 2) := by decide +kernel
theorem dX7_partOf_9 : decode cX7_partOf 9 = .ok (.ifnull 26, 3) := by decide +kernel
theorem dX7_partOf_12 : decode cX7_partOf 12 = .ok (.iload_n 3, 1) := by decide +kernel
theorem dX7_partOf_13 : decode cX7_partOf 13 = .ok (.ifCond .lt 22, 3) := by decide +kernel
theorem dX7_partOf_16 : decode cX7_partOf 16 = .ok (.iload_n 3, 1) := by decide +kernel
theorem dX7_partOf_17 : decode cX7_partOf 17 = .ok (.aload 4, 2) := by decide +kernel
theorem dX7_partOf_19 : decode cX7_partOf 19 = .ok (.getfield 232, 3) := by decide +kernel
theorem dX7_partOf_22 : decode cX7_partOf 22 = .ok (.if_icmp .ge 13, 3) := by decide +kernel
theorem dX7_partOf_25 : decode cX7_partOf 25 = .ok (.iload_n 3, 1) := by decide +kernel
theorem dX7_partOf_26 : decode cX7_partOf 26 = .ok (.aload 4, 2) := by decide +kernel
theorem dX7_partOf_28 : decode cX7_partOf 28 = .ok (.getfield 235, 3) := by decide +kernel
theorem dX7_partOf_31 : decode cX7_partOf 31 = .ok (.arraylength, 1) := by decide +kernel
theorem dX7_partOf_32 : decode cX7_partOf 32 = .ok (.if_icmp .lt 5, 3) := by decide +kernel
theorem dX7_partOf_35 : decode cX7_partOf 35 = .ok (.iconst (-1), 1) := by decide +kernel
theorem dX7_partOf_36 : decode cX7_partOf 36 = .ok (.ireturn, 1) := by decide +kernel
theorem dX7_partOf_37 : decode cX7_partOf 37 = .ok (.aload_n 0, 1) := by decide +kernel
theorem dX7_partOf_38 : decode cX7_partOf 38 = .ok (.aload 4, 2) := by decide +kernel
theorem dX7_partOf_40 : decode cX7_partOf 40 = .ok (.getfield 235, 3) := by decide +kernel
theorem dX7_partOf_43 : decode cX7_partOf 43 = .ok (.iload_n 3, 1) := by decide +kernel
theorem dX7_partOf_44 : decode cX7_partOf 44 = .ok (.iaload, 1) := by decide +kernel
theorem dX7_partOf_45 : decode cX7_partOf 45 = .ok (.invokevirtual 105, 3) := by decide +kernel
theorem dX7_partOf_48 : decode cX7_partOf 48 = .ok (.astore 5, 2) := by decide +kernel
theorem dX7_partOf_50 : decode cX7_partOf 50 = .ok (.aload 5, 2) := by decide +kernel
theorem dX7_partOf_52 : decode cX7_partOf 52 = .ok (.ifnonnull 7, 3) := by decide +kernel
theorem dX7_partOf_55 : decode cX7_partOf 55 = .ok (.iconst (-1), 1) := by decide +kernel
theorem dX7_partOf_56 : decode cX7_partOf 56 = .ok (.goto 13, 3) := by decide +kernel
theorem dX7_partOf_59 : decode cX7_partOf 59 = .ok (.aload 5, 2) := by decide +kernel
theorem dX7_partOf_61 : decode cX7_partOf 61 = .ok (.iload_n 1, 1) := by decide +kernel
theorem dX7_partOf_62 : decode cX7_partOf 62 = .ok (.iload_n 2, 1) := by decide +kernel
theorem dX7_partOf_63 : decode cX7_partOf 63 = .ok (.invokestatic 143, 3) := by decide +kernel
theorem dX7_partOf_66 : decode cX7_partOf 66 = .ok (.invokevirtual 238, 3) := by decide +kernel
theorem dX7_partOf_69 : decode cX7_partOf 69 = .ok (.istore 6, 2) := by decide +kernel
theorem dX7_partOf_71 : decode cX7_partOf 71 = .ok (.iload 6, 2) := by decide +kernel
theorem dX7_partOf_73 : decode cX7_partOf 73 = .ok (.ifCond .ge 7, 3) := by decide +kernel
theorem dX7_partOf_76 : decode cX7_partOf 76 = .ok (.iconst (-1), 1) := by decide +kernel
theorem dX7_partOf_77 : decode cX7_partOf 77 = .ok (.goto 15, 3) := by decide +kernel
theorem dX7_partOf_80 : decode cX7_partOf 80 = .ok (.aload 4, 2) := by decide +kernel
theorem dX7_partOf_82 : decode cX7_partOf 82 = .ok (.getfield 235, 3) := by decide +kernel
theorem dX7_partOf_85 : decode cX7_partOf 85 = .ok (.iload_n 3, 1) := by decide +kernel
theorem dX7_partOf_86 : decode cX7_partOf 86 = .ok (.iaload, 1) := by decide +kernel
theorem dX7_partOf_87 : decode cX7_partOf 87 = .ok (.iload 6, 2) := by decide +kernel
theorem dX7_partOf_89 : decode cX7_partOf 89 = .ok (.invokestatic 143, 3) := by decide +kernel
theorem dX7_partOf_92 : decode cX7_partOf 92 = .ok (.ireturn, 1) := by decide +kernel
theorem dX7_outermost_0 : decode cX7_outermost 0 = .ok (.iload_n 1, 1) := by decide +kernel
theorem dX7_outermost_1 : decode cX7_outermost 1 = .ok (.istore_n 2, 1) := by decide +kernel
theorem dX7_outermost_2 : decode cX7_outermost 2 = .ok (.iconst 0, 1) := by decide +kernel
theorem dX7_outermost_3 : decode cX7_outermost 3 = .ok (.istore_n 3, 1) := by decide +kernel
theorem dX7_outermost_4 : decode cX7_outermost 4 = .ok (.iload_n 3, 1) := by decide +kernel
theorem dX7_outermost_5 : decode cX7_outermost 5 = .ok (.bipush 24, 2) := by decide +kernel
theorem dX7_outermost_7 : decode cX7_outermost 7 = .ok (.if_icmp .ge 64, 3) := by decide +kernel
theorem dX7_outermost_10 : decode cX7_outermost 10 = .ok (.iload_n 2, 1) := by decide +kernel
theorem dX7_outermost_11 : decode cX7_outermost 11 = .ok (.sipush 1000, 3) := by decide +kernel
theorem dX7_outermost_14 : decode cX7_outermost 14 = .ok (.irem, 1) := by decide +kernel
theorem dX7_outermost_15 : decode cX7_outermost 15 = .ok (.istore 4, 2) := by decide +kernel
theorem dX7_outermost_17 : decode cX7_outermost 17 = .ok (.aload_n 0, 1) := by decide +kernel
theorem dX7_outermost_18 : decode cX7_outermost 18 = .ok (.iload_n 2, 1) := by decide +kernel
theorem dX7_outermost_19 : decode cX7_outermost 19 = .ok (.sipush 1000, 3) := by decide +kernel
theorem dX7_outermost_22 : decode cX7_outermost 22 = .ok (.idiv, 1) := by decide +kernel
theorem dX7_outermost_23 : decode cX7_outermost 23 = .ok (.invokevirtual 105, 3) := by decide +kernel
theorem dX7_outermost_26 : decode cX7_outermost 26 = .ok (.astore 5, 2) := by decide +kernel
theorem dX7_outermost_28 : decode cX7_outermost 28 = .ok (.aload 5, 2) := by decide +kernel
theorem dX7_outermost_30 : decode cX7_outermost 30 = .ok (.ifnull 24, 3) := by decide +kernel
theorem dX7_outermost_33 : decode cX7_outermost 33 = .ok (.aload 5, 2) := by decide +kernel
theorem dX7_outermost_35 : decode cX7_outermost 35 = .ok (.iload 4, 2) := by decide +kernel
theorem dX7_outermost_37 : decode cX7_outermost 37 = .ok (.invokevirtual 213, 3) := by decide +kernel
theorem dX7_outermost_40 : decode cX7_outermost 40 = .ok (.ifCond .eq 14, 3) := by decide +kernel
theorem dX7_outermost_43 : decode cX7_outermost 43 = .ok (.aload 5, 2) := by decide +kernel
theorem dX7_outermost_45 : decode cX7_outermost 45 = .ok (.getfield 140, 3) := by decide +kernel
theorem dX7_outermost_48 : decode cX7_outermost 48 = .ok (.iload 4, 2) := by decide +kernel
theorem dX7_outermost_50 : decode cX7_outermost 50 = .ok (.iaload, 1) := by decide +kernel
theorem dX7_outermost_51 : decode cX7_outermost 51 = .ok (.ifCond .ge 5, 3) := by decide +kernel
theorem dX7_outermost_54 : decode cX7_outermost 54 = .ok (.iload_n 2, 1) := by decide +kernel
theorem dX7_outermost_55 : decode cX7_outermost 55 = .ok (.ireturn, 1) := by decide +kernel
theorem dX7_outermost_56 : decode cX7_outermost 56 = .ok (.aload 5, 2) := by decide +kernel
theorem dX7_outermost_58 : decode cX7_outermost 58 = .ok (.getfield 140, 3) := by decide +kernel
theorem dX7_outermost_61 : decode cX7_outermost 61 = .ok (.iload 4, 2) := by decide +kernel
theorem dX7_outermost_63 : decode cX7_outermost 63 = .ok (.iaload, 1) := by decide +kernel
theorem dX7_outermost_64 : decode cX7_outermost 64 = .ok (.istore_n 2, 1) := by decide +kernel
theorem dX7_outermost_65 : decode cX7_outermost 65 = .ok (.iinc 3 1, 3) := by decide +kernel
theorem dX7_outermost_68 : decode cX7_outermost 68 = .ok (.goto (-64), 3) := by decide +kernel
theorem dX7_outermost_71 : decode cX7_outermost 71 = .ok (.iload_n 2, 1) := by decide +kernel
theorem dX7_outermost_72 : decode cX7_outermost 72 = .ok (.ireturn, 1) := by decide +kernel
theorem dX7_timesBlamed_0 : decode cX7_timesBlamed 0 = .ok (.iconst 0, 1) := by decide +kernel
theorem dX7_timesBlamed_1 : decode cX7_timesBlamed 1 = .ok (.istore_n 3, 1) := by decide +kernel
theorem dX7_timesBlamed_2 : decode cX7_timesBlamed 2 = .ok (.iconst 0, 1) := by decide +kernel
theorem dX7_timesBlamed_3 : decode cX7_timesBlamed 3 = .ok (.istore 4, 2) := by decide +kernel
theorem dX7_timesBlamed_5 : decode cX7_timesBlamed 5 = .ok (.iload 4, 2) := by decide +kernel
theorem dX7_timesBlamed_7 : decode cX7_timesBlamed 7 = .ok (.aload_n 0, 1) := by decide +kernel
theorem dX7_timesBlamed_8 : decode cX7_timesBlamed 8 = .ok (.getfield 29, 3) := by decide +kernel
theorem dX7_timesBlamed_11 : decode cX7_timesBlamed 11 = .ok (.arraylength, 1) := by decide +kernel
theorem dX7_timesBlamed_12 : decode cX7_timesBlamed 12 = .ok (.if_icmp .ge 40, 3) := by decide +kernel
theorem dX7_timesBlamed_15 : decode cX7_timesBlamed 15 = .ok (.iload 4, 2) := by decide +kernel
theorem dX7_timesBlamed_17 : decode cX7_timesBlamed 17 = .ok (.iconst 4, 1) := by decide +kernel
theorem dX7_timesBlamed_18 : decode cX7_timesBlamed 18 = .ok (.idiv, 1) := by decide +kernel
theorem dX7_timesBlamed_19 : decode cX7_timesBlamed 19 = .ok (.iload_n 1, 1) := by decide +kernel
theorem dX7_timesBlamed_20 : decode cX7_timesBlamed 20 = .ok (.if_icmp .ne 26, 3) := by decide +kernel
theorem dX7_timesBlamed_23 : decode cX7_timesBlamed 23 = .ok (.iload_n 2, 1) := by decide +kernel
theorem dX7_timesBlamed_24 : decode cX7_timesBlamed 24 = .ok (.iconst (-1), 1) := by decide +kernel
theorem dX7_timesBlamed_25 : decode cX7_timesBlamed 25 = .ok (.if_icmp .eq 11, 3) := by decide +kernel
theorem dX7_timesBlamed_28 : decode cX7_timesBlamed 28 = .ok (.iload 4, 2) := by decide +kernel
theorem dX7_timesBlamed_30 : decode cX7_timesBlamed 30 = .ok (.iconst 4, 1) := by decide +kernel
theorem dX7_timesBlamed_31 : decode cX7_timesBlamed 31 = .ok (.irem, 1) := by decide +kernel
theorem dX7_timesBlamed_32 : decode cX7_timesBlamed 32 = .ok (.iload_n 2, 1) := by decide +kernel
theorem dX7_timesBlamed_33 : decode cX7_timesBlamed 33 = .ok (.if_icmp .ne 13, 3) := by decide +kernel
theorem dX7_timesBlamed_36 : decode cX7_timesBlamed 36 = .ok (.iload_n 3, 1) := by decide +kernel
theorem dX7_timesBlamed_37 : decode cX7_timesBlamed 37 = .ok (.aload_n 0, 1) := by decide +kernel
theorem dX7_timesBlamed_38 : decode cX7_timesBlamed 38 = .ok (.getfield 29, 3) := by decide +kernel
theorem dX7_timesBlamed_41 : decode cX7_timesBlamed 41 = .ok (.iload 4, 2) := by decide +kernel
theorem dX7_timesBlamed_43 : decode cX7_timesBlamed 43 = .ok (.iaload, 1) := by decide +kernel
theorem dX7_timesBlamed_44 : decode cX7_timesBlamed 44 = .ok (.iadd, 1) := by decide +kernel
theorem dX7_timesBlamed_45 : decode cX7_timesBlamed 45 = .ok (.istore_n 3, 1) := by decide +kernel
theorem dX7_timesBlamed_46 : decode cX7_timesBlamed 46 = .ok (.iinc 4 1, 3) := by decide +kernel
theorem dX7_timesBlamed_49 : decode cX7_timesBlamed 49 = .ok (.goto (-44), 3) := by decide +kernel
theorem dX7_timesBlamed_52 : decode cX7_timesBlamed 52 = .ok (.iload_n 3, 1) := by decide +kernel
theorem dX7_timesBlamed_53 : decode cX7_timesBlamed 53 = .ok (.ireturn, 1) := by decide +kernel
theorem dX7_mostBlamed_0 : decode cX7_mostBlamed 0 = .ok (.iconst 0, 1) := by decide +kernel
theorem dX7_mostBlamed_1 : decode cX7_mostBlamed 1 = .ok (.istore_n 2, 1) := by decide +kernel
theorem dX7_mostBlamed_2 : decode cX7_mostBlamed 2 = .ok (.iload_n 2, 1) := by decide +kernel
theorem dX7_mostBlamed_3 : decode cX7_mostBlamed 3 = .ok (.aload_n 0, 1) := by decide +kernel
theorem dX7_mostBlamed_4 : decode cX7_mostBlamed 4 = .ok (.getfield 29, 3) := by decide +kernel
theorem dX7_mostBlamed_7 : decode cX7_mostBlamed 7 = .ok (.arraylength, 1) := by decide +kernel
theorem dX7_mostBlamed_8 : decode cX7_mostBlamed 8 = .ok (.if_icmp .ge 38, 3) := by decide +kernel
theorem dX7_mostBlamed_11 : decode cX7_mostBlamed 11 = .ok (.aload_n 0, 1) := by decide +kernel
theorem dX7_mostBlamed_12 : decode cX7_mostBlamed 12 = .ok (.getfield 29, 3) := by decide +kernel
theorem dX7_mostBlamed_15 : decode cX7_mostBlamed 15 = .ok (.iload_n 2, 1) := by decide +kernel
theorem dX7_mostBlamed_16 : decode cX7_mostBlamed 16 = .ok (.iaload, 1) := by decide +kernel
theorem dX7_mostBlamed_17 : decode cX7_mostBlamed 17 = .ok (.ifCond .le 23, 3) := by decide +kernel
theorem dX7_mostBlamed_20 : decode cX7_mostBlamed 20 = .ok (.aload_n 0, 1) := by decide +kernel
theorem dX7_mostBlamed_21 : decode cX7_mostBlamed 21 = .ok (.iload_n 2, 1) := by decide +kernel
theorem dX7_mostBlamed_22 : decode cX7_mostBlamed 22 = .ok (.invokevirtual 244, 3) := by decide +kernel
theorem dX7_mostBlamed_25 : decode cX7_mostBlamed 25 = .ok (.iload_n 1, 1) := by decide +kernel
theorem dX7_mostBlamed_26 : decode cX7_mostBlamed 26 = .ok (.if_icmp .ne 14, 3) := by decide +kernel
theorem dX7_mostBlamed_29 : decode cX7_mostBlamed 29 = .ok (.bipush 10, 2) := by decide +kernel
theorem dX7_mostBlamed_31 : decode cX7_mostBlamed 31 = .ok (.iload_n 2, 1) := by decide +kernel
theorem dX7_mostBlamed_32 : decode cX7_mostBlamed 32 = .ok (.iconst 4, 1) := by decide +kernel
theorem dX7_mostBlamed_33 : decode cX7_mostBlamed 33 = .ok (.idiv, 1) := by decide +kernel
theorem dX7_mostBlamed_34 : decode cX7_mostBlamed 34 = .ok (.imul, 1) := by decide +kernel
theorem dX7_mostBlamed_35 : decode cX7_mostBlamed 35 = .ok (.iload_n 2, 1) := by decide +kernel
theorem dX7_mostBlamed_36 : decode cX7_mostBlamed 36 = .ok (.iconst 4, 1) := by decide +kernel
theorem dX7_mostBlamed_37 : decode cX7_mostBlamed 37 = .ok (.irem, 1) := by decide +kernel
theorem dX7_mostBlamed_38 : decode cX7_mostBlamed 38 = .ok (.iadd, 1) := by decide +kernel
theorem dX7_mostBlamed_39 : decode cX7_mostBlamed 39 = .ok (.ireturn, 1) := by decide +kernel
theorem dX7_mostBlamed_40 : decode cX7_mostBlamed 40 = .ok (.iinc 2 1, 3) := by decide +kernel
theorem dX7_mostBlamed_43 : decode cX7_mostBlamed 43 = .ok (.goto (-41), 3) := by decide +kernel
theorem dX7_mostBlamed_46 : decode cX7_mostBlamed 46 = .ok (.bipush (-4), 2) := by decide +kernel
theorem dX7_mostBlamed_48 : decode cX7_mostBlamed 48 = .ok (.ireturn, 1) := by decide +kernel
theorem dX7_moreBlamedThan_0 : decode cX7_moreBlamedThan 0 = .ok (.iconst 0, 1) := by decide +kernel
theorem dX7_moreBlamedThan_1 : decode cX7_moreBlamedThan 1 = .ok (.istore_n 2, 1) := by decide +kernel
theorem dX7_moreBlamedThan_2 : decode cX7_moreBlamedThan 2 = .ok (.iconst 0, 1) := by decide +kernel
theorem dX7_moreBlamedThan_3 : decode cX7_moreBlamedThan 3 = .ok (.istore_n 3, 1) := by decide +kernel
theorem dX7_moreBlamedThan_4 : decode cX7_moreBlamedThan 4 = .ok (.iload_n 3, 1) := by decide +kernel
theorem dX7_moreBlamedThan_5 : decode cX7_moreBlamedThan 5 = .ok (.aload_n 0, 1) := by decide +kernel
theorem dX7_moreBlamedThan_6 : decode cX7_moreBlamedThan 6 = .ok (.getfield 29, 3) := by decide +kernel
theorem dX7_moreBlamedThan_9 : decode cX7_moreBlamedThan 9 = .ok (.arraylength, 1) := by decide +kernel
theorem dX7_moreBlamedThan_10 : decode cX7_moreBlamedThan 10 = .ok (.if_icmp .ge 47, 3) := by decide +kernel
theorem dX7_moreBlamedThan_13 : decode cX7_moreBlamedThan 13 = .ok (.aload_n 0, 1) := by decide +kernel
theorem dX7_moreBlamedThan_14 : decode cX7_moreBlamedThan 14 = .ok (.getfield 29, 3) := by decide +kernel
theorem dX7_moreBlamedThan_17 : decode cX7_moreBlamedThan 17 = .ok (.iload_n 3, 1) := by decide +kernel
theorem dX7_moreBlamedThan_18 : decode cX7_moreBlamedThan 18 = .ok (.iaload, 1) := by decide +kernel
theorem dX7_moreBlamedThan_19 : decode cX7_moreBlamedThan 19 = .ok (.aload_n 0, 1) := by decide +kernel
theorem dX7_moreBlamedThan_20 : decode cX7_moreBlamedThan 20 = .ok (.getfield 29, 3) := by decide +kernel
theorem dX7_moreBlamedThan_23 : decode cX7_moreBlamedThan 23 = .ok (.iload_n 1, 1) := by decide +kernel
theorem dX7_moreBlamedThan_24 : decode cX7_moreBlamedThan 24 = .ok (.iaload, 1) := by decide +kernel
theorem dX7_moreBlamedThan_25 : decode cX7_moreBlamedThan 25 = .ok (.if_icmp .gt 23, 3) := by decide +kernel
theorem dX7_moreBlamedThan_28 : decode cX7_moreBlamedThan 28 = .ok (.aload_n 0, 1) := by decide +kernel
theorem dX7_moreBlamedThan_29 : decode cX7_moreBlamedThan 29 = .ok (.getfield 29, 3) := by decide +kernel
theorem dX7_moreBlamedThan_32 : decode cX7_moreBlamedThan 32 = .ok (.iload_n 3, 1) := by decide +kernel
theorem dX7_moreBlamedThan_33 : decode cX7_moreBlamedThan 33 = .ok (.iaload, 1) := by decide +kernel
theorem dX7_moreBlamedThan_34 : decode cX7_moreBlamedThan 34 = .ok (.aload_n 0, 1) := by decide +kernel
theorem dX7_moreBlamedThan_35 : decode cX7_moreBlamedThan 35 = .ok (.getfield 29, 3) := by decide +kernel
theorem dX7_moreBlamedThan_38 : decode cX7_moreBlamedThan 38 = .ok (.iload_n 1, 1) := by decide +kernel
theorem dX7_moreBlamedThan_39 : decode cX7_moreBlamedThan 39 = .ok (.iaload, 1) := by decide +kernel
theorem dX7_moreBlamedThan_40 : decode cX7_moreBlamedThan 40 = .ok (.if_icmp .ne 11, 3) := by decide +kernel
theorem dX7_moreBlamedThan_43 : decode cX7_moreBlamedThan 43 = .ok (.iload_n 3, 1) := by decide +kernel
theorem dX7_moreBlamedThan_44 : decode cX7_moreBlamedThan 44 = .ok (.iload_n 1, 1) := by decide +kernel
theorem dX7_moreBlamedThan_45 : decode cX7_moreBlamedThan 45 = .ok (.if_icmp .ge 6, 3) := by decide +kernel
theorem dX7_moreBlamedThan_48 : decode cX7_moreBlamedThan 48 = .ok (.iinc 2 1, 3) := by decide +kernel
theorem dX7_moreBlamedThan_51 : decode cX7_moreBlamedThan 51 = .ok (.iinc 3 1, 3) := by decide +kernel
theorem dX7_moreBlamedThan_54 : decode cX7_moreBlamedThan 54 = .ok (.goto (-50), 3) := by decide +kernel
theorem dX7_moreBlamedThan_57 : decode cX7_moreBlamedThan 57 = .ok (.iload_n 2, 1) := by decide +kernel
theorem dX7_moreBlamedThan_58 : decode cX7_moreBlamedThan 58 = .ok (.ireturn, 1) := by decide +kernel
theorem dX7_shippedOf_0 : decode cX7_shippedOf 0 = .ok (.iconst 0, 1) := by decide +kernel
theorem dX7_shippedOf_1 : decode cX7_shippedOf 1 = .ok (.istore_n 2, 1) := by decide +kernel
theorem dX7_shippedOf_2 : decode cX7_shippedOf 2 = .ok (.iconst 0, 1) := by decide +kernel
theorem dX7_shippedOf_3 : decode cX7_shippedOf 3 = .ok (.istore_n 3, 1) := by decide +kernel
theorem dX7_shippedOf_4 : decode cX7_shippedOf 4 = .ok (.iload_n 3, 1) := by decide +kernel
theorem dX7_shippedOf_5 : decode cX7_shippedOf 5 = .ok (.aload_n 0, 1) := by decide +kernel
theorem dX7_shippedOf_6 : decode cX7_shippedOf 6 = .ok (.getfield 49, 3) := by decide +kernel
theorem dX7_shippedOf_9 : decode cX7_shippedOf 9 = .ok (.if_icmp .ge 39, 3) := by decide +kernel
theorem dX7_shippedOf_12 : decode cX7_shippedOf 12 = .ok (.aload_n 0, 1) := by decide +kernel
theorem dX7_shippedOf_13 : decode cX7_shippedOf 13 = .ok (.iload_n 3, 1) := by decide +kernel
theorem dX7_shippedOf_14 : decode cX7_shippedOf 14 = .ok (.invokevirtual 105, 3) := by decide +kernel
theorem dX7_shippedOf_17 : decode cX7_shippedOf 17 = .ok (.astore 4, 2) := by decide +kernel
theorem dX7_shippedOf_19 : decode cX7_shippedOf 19 = .ok (.aload 4, 2) := by decide +kernel
theorem dX7_shippedOf_21 : decode cX7_shippedOf 21 = .ok (.ifnull 21, 3) := by decide +kernel
theorem dX7_shippedOf_24 : decode cX7_shippedOf 24 = .ok (.aload 4, 2) := by decide +kernel
theorem dX7_shippedOf_26 : decode cX7_shippedOf 26 = .ok (.getfield 72, 3) := by decide +kernel
theorem dX7_shippedOf_29 : decode cX7_shippedOf 29 = .ok (.iload_n 1, 1) := by decide +kernel
theorem dX7_shippedOf_30 : decode cX7_shippedOf 30 = .ok (.if_icmp .ne 12, 3) := by decide +kernel
theorem dX7_shippedOf_33 : decode cX7_shippedOf 33 = .ok (.iload_n 2, 1) := by decide +kernel
theorem dX7_shippedOf_34 : decode cX7_shippedOf 34 = .ok (.aload 4, 2) := by decide +kernel
theorem dX7_shippedOf_36 : decode cX7_shippedOf 36 = .ok (.iconst 4, 1) := by decide +kernel
theorem dX7_shippedOf_37 : decode cX7_shippedOf 37 = .ok (.invokevirtual 127, 3) := by decide +kernel
theorem dX7_shippedOf_40 : decode cX7_shippedOf 40 = .ok (.iadd, 1) := by decide +kernel
theorem dX7_shippedOf_41 : decode cX7_shippedOf 41 = .ok (.istore_n 2, 1) := by decide +kernel
theorem dX7_shippedOf_42 : decode cX7_shippedOf 42 = .ok (.iinc 3 1, 3) := by decide +kernel
theorem dX7_shippedOf_45 : decode cX7_shippedOf 45 = .ok (.goto (-41), 3) := by decide +kernel
theorem dX7_shippedOf_48 : decode cX7_shippedOf 48 = .ok (.iload_n 2, 1) := by decide +kernel
theorem dX7_shippedOf_49 : decode cX7_shippedOf 49 = .ok (.ireturn, 1) := by decide +kernel
theorem dX7_badShippedOf_0 : decode cX7_badShippedOf 0 = .ok (.iconst 0, 1) := by decide +kernel
theorem dX7_badShippedOf_1 : decode cX7_badShippedOf 1 = .ok (.istore_n 3, 1) := by decide +kernel
theorem dX7_badShippedOf_2 : decode cX7_badShippedOf 2 = .ok (.iconst 0, 1) := by decide +kernel
theorem dX7_badShippedOf_3 : decode cX7_badShippedOf 3 = .ok (.istore 4, 2) := by decide +kernel
theorem dX7_badShippedOf_5 : decode cX7_badShippedOf 5 = .ok (.iload 4, 2) := by decide +kernel
theorem dX7_badShippedOf_7 : decode cX7_badShippedOf 7 = .ok (.aload_n 0, 1) := by decide +kernel
theorem dX7_badShippedOf_8 : decode cX7_badShippedOf 8 = .ok (.getfield 49, 3) := by decide +kernel
theorem dX7_badShippedOf_11 : decode cX7_badShippedOf 11 = .ok (.if_icmp .ge 41, 3) := by decide +kernel
theorem dX7_badShippedOf_14 : decode cX7_badShippedOf 14 = .ok (.aload_n 0, 1) := by decide +kernel
theorem dX7_badShippedOf_15 : decode cX7_badShippedOf 15 = .ok (.iload 4, 2) := by decide +kernel
theorem dX7_badShippedOf_17 : decode cX7_badShippedOf 17 = .ok (.invokevirtual 105, 3) := by decide +kernel
theorem dX7_badShippedOf_20 : decode cX7_badShippedOf 20 = .ok (.astore 5, 2) := by decide +kernel
theorem dX7_badShippedOf_22 : decode cX7_badShippedOf 22 = .ok (.aload 5, 2) := by decide +kernel
theorem dX7_badShippedOf_24 : decode cX7_badShippedOf 24 = .ok (.ifnull 22, 3) := by decide +kernel
theorem dX7_badShippedOf_27 : decode cX7_badShippedOf 27 = .ok (.aload 5, 2) := by decide +kernel
theorem dX7_badShippedOf_29 : decode cX7_badShippedOf 29 = .ok (.getfield 72, 3) := by decide +kernel
theorem dX7_badShippedOf_32 : decode cX7_badShippedOf 32 = .ok (.iload_n 1, 1) := by decide +kernel
theorem dX7_badShippedOf_33 : decode cX7_badShippedOf 33 = .ok (.if_icmp .ne 13, 3) := by decide +kernel
theorem dX7_badShippedOf_36 : decode cX7_badShippedOf 36 = .ok (.iload_n 3, 1) := by decide +kernel
theorem dX7_badShippedOf_37 : decode cX7_badShippedOf 37 = .ok (.aload 5, 2) := by decide +kernel
theorem dX7_badShippedOf_39 : decode cX7_badShippedOf 39 = .ok (.iconst 4, 1) := by decide +kernel
theorem dX7_badShippedOf_40 : decode cX7_badShippedOf 40 = .ok (.iload_n 2, 1) := by decide +kernel
theorem dX7_badShippedOf_41 : decode cX7_badShippedOf 41 = .ok (.invokevirtual 247, 3) := by decide +kernel
theorem dX7_badShippedOf_44 : decode cX7_badShippedOf 44 = .ok (.iadd, 1) := by decide +kernel
theorem dX7_badShippedOf_45 : decode cX7_badShippedOf 45 = .ok (.istore_n 3, 1) := by decide +kernel
theorem dX7_badShippedOf_46 : decode cX7_badShippedOf 46 = .ok (.iinc 4 1, 3) := by decide +kernel
theorem dX7_badShippedOf_49 : decode cX7_badShippedOf 49 = .ok (.goto (-44), 3) := by decide +kernel
theorem dX7_badShippedOf_52 : decode cX7_badShippedOf 52 = .ok (.iload_n 3, 1) := by decide +kernel
theorem dX7_badShippedOf_53 : decode cX7_badShippedOf 53 = .ok (.ireturn, 1) := by decide +kernel
theorem dX7_allUnits_0 : decode cX7_allUnits 0 = .ok (.iconst 0, 1) := by decide +kernel
theorem dX7_allUnits_1 : decode cX7_allUnits 1 = .ok (.istore_n 1, 1) := by decide +kernel
theorem dX7_allUnits_2 : decode cX7_allUnits 2 = .ok (.iconst 0, 1) := by decide +kernel
theorem dX7_allUnits_3 : decode cX7_allUnits 3 = .ok (.istore_n 2, 1) := by decide +kernel
theorem dX7_allUnits_4 : decode cX7_allUnits 4 = .ok (.iload_n 2, 1) := by decide +kernel
theorem dX7_allUnits_5 : decode cX7_allUnits 5 = .ok (.aload_n 0, 1) := by decide +kernel
theorem dX7_allUnits_6 : decode cX7_allUnits 6 = .ok (.getfield 49, 3) := by decide +kernel
theorem dX7_allUnits_9 : decode cX7_allUnits 9 = .ok (.if_icmp .ge 30, 3) := by decide +kernel
theorem dX7_allUnits_12 : decode cX7_allUnits 12 = .ok (.aload_n 0, 1) := by decide +kernel
theorem dX7_allUnits_13 : decode cX7_allUnits 13 = .ok (.iload_n 2, 1) := by decide +kernel
theorem dX7_allUnits_14 : decode cX7_allUnits 14 = .ok (.invokevirtual 105, 3) := by decide +kernel
theorem dX7_allUnits_17 : decode cX7_allUnits 17 = .ok (.astore_n 3, 1) := by decide +kernel
theorem dX7_allUnits_18 : decode cX7_allUnits 18 = .ok (.iload_n 1, 1) := by decide +kernel
theorem dX7_allUnits_19 : decode cX7_allUnits 19 = .ok (.aload_n 3, 1) := by decide +kernel
theorem dX7_allUnits_20 : decode cX7_allUnits 20 = .ok (.ifnonnull 7, 3) := by decide +kernel
theorem dX7_allUnits_23 : decode cX7_allUnits 23 = .ok (.iconst 0, 1) := by decide +kernel
theorem dX7_allUnits_24 : decode cX7_allUnits 24 = .ok (.goto 7, 3) := by decide +kernel
theorem dX7_allUnits_27 : decode cX7_allUnits 27 = .ok (.aload_n 3, 1) := by decide +kernel
theorem dX7_allUnits_28 : decode cX7_allUnits 28 = .ok (.getfield 134, 3) := by decide +kernel
theorem dX7_allUnits_31 : decode cX7_allUnits 31 = .ok (.iadd, 1) := by decide +kernel
theorem dX7_allUnits_32 : decode cX7_allUnits 32 = .ok (.istore_n 1, 1) := by decide +kernel
theorem dX7_allUnits_33 : decode cX7_allUnits 33 = .ok (.iinc 2 1, 3) := by decide +kernel
theorem dX7_allUnits_36 : decode cX7_allUnits 36 = .ok (.goto (-32), 3) := by decide +kernel
theorem dX7_allUnits_39 : decode cX7_allUnits 39 = .ok (.iload_n 1, 1) := by decide +kernel
theorem dX7_allUnits_40 : decode cX7_allUnits 40 = .ok (.ireturn, 1) := by decide +kernel
theorem dX7_allUnitsIn_0 : decode cX7_allUnitsIn 0 = .ok (.iconst 0, 1) := by decide +kernel
theorem dX7_allUnitsIn_1 : decode cX7_allUnitsIn 1 = .ok (.istore_n 2, 1) := by decide +kernel
theorem dX7_allUnitsIn_2 : decode cX7_allUnitsIn 2 = .ok (.iconst 0, 1) := by decide +kernel
theorem dX7_allUnitsIn_3 : decode cX7_allUnitsIn 3 = .ok (.istore_n 3, 1) := by decide +kernel
theorem dX7_allUnitsIn_4 : decode cX7_allUnitsIn 4 = .ok (.iload_n 3, 1) := by decide +kernel
theorem dX7_allUnitsIn_5 : decode cX7_allUnitsIn 5 = .ok (.aload_n 0, 1) := by decide +kernel
theorem dX7_allUnitsIn_6 : decode cX7_allUnitsIn 6 = .ok (.getfield 49, 3) := by decide +kernel
theorem dX7_allUnitsIn_9 : decode cX7_allUnitsIn 9 = .ok (.if_icmp .ge 34, 3) := by decide +kernel
theorem dX7_allUnitsIn_12 : decode cX7_allUnitsIn 12 = .ok (.aload_n 0, 1) := by decide +kernel
theorem dX7_allUnitsIn_13 : decode cX7_allUnitsIn 13 = .ok (.iload_n 3, 1) := by decide +kernel
theorem dX7_allUnitsIn_14 : decode cX7_allUnitsIn 14 = .ok (.invokevirtual 105, 3) := by decide +kernel
theorem dX7_allUnitsIn_17 : decode cX7_allUnitsIn 17 = .ok (.astore 4, 2) := by decide +kernel
theorem dX7_allUnitsIn_19 : decode cX7_allUnitsIn 19 = .ok (.iload_n 2, 1) := by decide +kernel
theorem dX7_allUnitsIn_20 : decode cX7_allUnitsIn 20 = .ok (.aload 4, 2) := by decide +kernel
theorem dX7_allUnitsIn_22 : decode cX7_allUnitsIn 22 = .ok (.ifnonnull 7, 3) := by decide +kernel
theorem dX7_allUnitsIn_25 : decode cX7_allUnitsIn 25 = .ok (.iconst 0, 1) := by decide +kernel
theorem dX7_allUnitsIn_26 : decode cX7_allUnitsIn 26 = .ok (.goto 9, 3) := by decide +kernel
theorem dX7_allUnitsIn_29 : decode cX7_allUnitsIn 29 = .ok (.aload 4, 2) := by decide +kernel
theorem dX7_allUnitsIn_31 : decode cX7_allUnitsIn 31 = .ok (.iload_n 1, 1) := by decide +kernel
theorem dX7_allUnitsIn_32 : decode cX7_allUnitsIn 32 = .ok (.invokevirtual 127, 3) := by decide +kernel
theorem dX7_allUnitsIn_35 : decode cX7_allUnitsIn 35 = .ok (.iadd, 1) := by decide +kernel
theorem dX7_allUnitsIn_36 : decode cX7_allUnitsIn 36 = .ok (.istore_n 2, 1) := by decide +kernel
theorem dX7_allUnitsIn_37 : decode cX7_allUnitsIn 37 = .ok (.iinc 3 1, 3) := by decide +kernel
theorem dX7_allUnitsIn_40 : decode cX7_allUnitsIn 40 = .ok (.goto (-36), 3) := by decide +kernel
theorem dX7_allUnitsIn_43 : decode cX7_allUnitsIn 43 = .ok (.iload_n 2, 1) := by decide +kernel
theorem dX7_allUnitsIn_44 : decode cX7_allUnitsIn 44 = .ok (.ireturn, 1) := by decide +kernel
theorem dX8_init_0 : decode cX8_init 0 = .ok (.aload_n 0, 1) := by decide +kernel
theorem dX8_init_1 : decode cX8_init 1 = .ok (.invokespecial 3, 3) := by decide +kernel
theorem dX8_init_4 : decode cX8_init 4 = .ok (.aload_n 0, 1) := by decide +kernel
theorem dX8_init_5 : decode cX8_init 5 = .ok (.iconst 5, 1) := by decide +kernel
theorem dX8_init_6 : decode cX8_init 6 = .ok (.putfield 9, 3) := by decide +kernel
theorem dX8_init_9 : decode cX8_init 9 = .ok (.aload_n 0, 1) := by decide +kernel
theorem dX8_init_10 : decode cX8_init 10 = .ok (.bipush 15, 2) := by decide +kernel
theorem dX8_init_12 : decode cX8_init 12 = .ok (.putfield 15, 3) := by decide +kernel
theorem dX8_init_15 : decode cX8_init 15 = .ok (.aload_n 0, 1) := by decide +kernel
theorem dX8_init_16 : decode cX8_init 16 = .ok (.iconst 3, 1) := by decide +kernel
theorem dX8_init_17 : decode cX8_init 17 = .ok (.putfield 18, 3) := by decide +kernel
theorem dX8_init_20 : decode cX8_init 20 = .ok (.aload_n 0, 1) := by decide +kernel
theorem dX8_init_21 : decode cX8_init 21 = .ok (.iconst 0, 1) := by decide +kernel
theorem dX8_init_22 : decode cX8_init 22 = .ok (.putfield 21, 3) := by decide +kernel
theorem dX8_init_25 : decode cX8_init 25 = .ok (.return_, 1) := by decide +kernel
theorem dX8_copyFrom_0 : decode cX8_copyFrom 0 = .ok (.aload_n 0, 1) := by decide +kernel
theorem dX8_copyFrom_1 : decode cX8_copyFrom 1 = .ok (.aload_n 1, 1) := by decide +kernel
theorem dX8_copyFrom_2 : decode cX8_copyFrom 2 = .ok (.getfield 9, 3) := by decide +kernel
theorem dX8_copyFrom_5 : decode cX8_copyFrom 5 = .ok (.putfield 9, 3) := by decide +kernel
theorem dX8_copyFrom_8 : decode cX8_copyFrom 8 = .ok (.aload_n 0, 1) := by decide +kernel
theorem dX8_copyFrom_9 : decode cX8_copyFrom 9 = .ok (.aload_n 1, 1) := by decide +kernel
theorem dX8_copyFrom_10 : decode cX8_copyFrom 10 = .ok (.getfield 15, 3) := by decide +kernel
theorem dX8_copyFrom_13 : decode cX8_copyFrom 13 = .ok (.putfield 15, 3) := by decide +kernel
theorem dX8_copyFrom_16 : decode cX8_copyFrom 16 = .ok (.aload_n 0, 1) := by decide +kernel
theorem dX8_copyFrom_17 : decode cX8_copyFrom 17 = .ok (.aload_n 1, 1) := by decide +kernel
theorem dX8_copyFrom_18 : decode cX8_copyFrom 18 = .ok (.getfield 18, 3) := by decide +kernel
theorem dX8_copyFrom_21 : decode cX8_copyFrom 21 = .ok (.putfield 18, 3) := by decide +kernel
theorem dX8_copyFrom_24 : decode cX8_copyFrom 24 = .ok (.aload_n 0, 1) := by decide +kernel
theorem dX8_copyFrom_25 : decode cX8_copyFrom 25 = .ok (.aload_n 1, 1) := by decide +kernel
theorem dX8_copyFrom_26 : decode cX8_copyFrom 26 = .ok (.getfield 21, 3) := by decide +kernel
theorem dX8_copyFrom_29 : decode cX8_copyFrom 29 = .ok (.putfield 21, 3) := by decide +kernel
theorem dX8_copyFrom_32 : decode cX8_copyFrom 32 = .ok (.aload_n 0, 1) := by decide +kernel
theorem dX8_copyFrom_33 : decode cX8_copyFrom 33 = .ok (.aload_n 1, 1) := by decide +kernel
theorem dX8_copyFrom_34 : decode cX8_copyFrom 34 = .ok (.getfield 24, 3) := by decide +kernel
theorem dX8_copyFrom_37 : decode cX8_copyFrom 37 = .ok (.putfield 24, 3) := by decide +kernel
theorem dX8_copyFrom_40 : decode cX8_copyFrom 40 = .ok (.aload_n 0, 1) := by decide +kernel
theorem dX8_copyFrom_41 : decode cX8_copyFrom 41 = .ok (.aload_n 1, 1) := by decide +kernel
theorem dX8_copyFrom_42 : decode cX8_copyFrom 42 = .ok (.getfield 27, 3) := by decide +kernel
theorem dX8_copyFrom_45 : decode cX8_copyFrom 45 = .ok (.putfield 27, 3) := by decide +kernel
theorem dX8_copyFrom_48 : decode cX8_copyFrom 48 = .ok (.aload_n 0, 1) := by decide +kernel
theorem dX8_copyFrom_49 : decode cX8_copyFrom 49 = .ok (.aload_n 1, 1) := by decide +kernel
theorem dX8_copyFrom_50 : decode cX8_copyFrom 50 = .ok (.getfield 30, 3) := by decide +kernel
theorem dX8_copyFrom_53 : decode cX8_copyFrom 53 = .ok (.putfield 30, 3) := by decide +kernel
theorem dX8_copyFrom_56 : decode cX8_copyFrom 56 = .ok (.aload_n 0, 1) := by decide +kernel
theorem dX8_copyFrom_57 : decode cX8_copyFrom 57 = .ok (.aload_n 1, 1) := by decide +kernel
theorem dX8_copyFrom_58 : decode cX8_copyFrom 58 = .ok (.getfield 33, 3) := by decide +kernel
theorem dX8_copyFrom_61 : decode cX8_copyFrom 61 = .ok (.putfield 33, 3) := by decide +kernel
theorem dX8_copyFrom_64 : decode cX8_copyFrom 64 = .ok (.aload_n 0, 1) := by decide +kernel
theorem dX8_copyFrom_65 : decode cX8_copyFrom 65 = .ok (.aload_n 1, 1) := by decide +kernel
theorem dX8_copyFrom_66 : decode cX8_copyFrom 66 = .ok (.getfield 36, 3) := by decide +kernel
theorem dX8_copyFrom_69 : decode cX8_copyFrom 69 = .ok (.putfield 36, 3) := by decide +kernel
theorem dX8_copyFrom_72 : decode cX8_copyFrom 72 = .ok (.return_, 1) := by decide +kernel
theorem dX8_number_0 : decode cX8_number 0 = .ok (.iload_n 1, 1) := by decide +kernel
theorem dX8_number_1 : decode cX8_number 1 = .ok (.tableswitch 69 0 5 #[39, 44, 49, 54, 59, 64], 39) := by decide +kernel
theorem dX8_number_40 : decode cX8_number 40 = .ok (.aload_n 0, 1) := by decide +kernel
theorem dX8_number_41 : decode cX8_number 41 = .ok (.getfield 9, 3) := by decide +kernel
theorem dX8_number_44 : decode cX8_number 44 = .ok (.ireturn, 1) := by decide +kernel
theorem dX8_number_45 : decode cX8_number 45 = .ok (.aload_n 0, 1) := by decide +kernel
theorem dX8_number_46 : decode cX8_number 46 = .ok (.getfield 15, 3) := by decide +kernel
theorem dX8_number_49 : decode cX8_number 49 = .ok (.ireturn, 1) := by decide +kernel
theorem dX8_number_50 : decode cX8_number 50 = .ok (.aload_n 0, 1) := by decide +kernel
theorem dX8_number_51 : decode cX8_number 51 = .ok (.getfield 18, 3) := by decide +kernel
theorem dX8_number_54 : decode cX8_number 54 = .ok (.ireturn, 1) := by decide +kernel
theorem dX8_number_55 : decode cX8_number 55 = .ok (.aload_n 0, 1) := by decide +kernel
theorem dX8_number_56 : decode cX8_number 56 = .ok (.getfield 21, 3) := by decide +kernel
theorem dX8_number_59 : decode cX8_number 59 = .ok (.ireturn, 1) := by decide +kernel
theorem dX8_number_60 : decode cX8_number 60 = .ok (.aload_n 0, 1) := by decide +kernel
theorem dX8_number_61 : decode cX8_number 61 = .ok (.getfield 24, 3) := by decide +kernel
theorem dX8_number_64 : decode cX8_number 64 = .ok (.ireturn, 1) := by decide +kernel
theorem dX8_number_65 : decode cX8_number 65 = .ok (.aload_n 0, 1) := by decide +kernel
theorem dX8_number_66 : decode cX8_number 66 = .ok (.getfield 27, 3) := by decide +kernel
theorem dX8_number_69 : decode cX8_number 69 = .ok (.ireturn, 1) := by decide +kernel
theorem dX8_number_70 : decode cX8_number 70 = .ok (.aload_n 0, 1) := by decide +kernel
theorem dX8_number_71 : decode cX8_number 71 = .ok (.getfield 30, 3) := by decide +kernel
theorem dX8_number_74 : decode cX8_number 74 = .ok (.invokestatic 39, 3) := by decide +kernel
theorem dX8_number_77 : decode cX8_number 77 = .ok (.ireturn, 1) := by decide +kernel
theorem dX8_sampleSize_0 : decode cX8_sampleSize 0 = .ok (.iconst 0, 1) := by decide +kernel
theorem dX8_sampleSize_1 : decode cX8_sampleSize 1 = .ok (.istore_n 2, 1) := by decide +kernel
theorem dX8_sampleSize_2 : decode cX8_sampleSize 2 = .ok (.iload_n 2, 1) := by decide +kernel
theorem dX8_sampleSize_3 : decode cX8_sampleSize 3 = .ok (.getstatic 45, 3) := by decide +kernel
theorem dX8_sampleSize_6 : decode cX8_sampleSize 6 = .ok (.arraylength, 1) := by decide +kernel
theorem dX8_sampleSize_7 : decode cX8_sampleSize 7 = .ok (.if_icmp .ge 18, 3) := by decide +kernel
theorem dX8_sampleSize_10 : decode cX8_sampleSize 10 = .ok (.iload_n 0, 1) := by decide +kernel
theorem dX8_sampleSize_11 : decode cX8_sampleSize 11 = .ok (.getstatic 45, 3) := by decide +kernel
theorem dX8_sampleSize_14 : decode cX8_sampleSize 14 = .ok (.iload_n 2, 1) := by decide +kernel
theorem dX8_sampleSize_15 : decode cX8_sampleSize 15 = .ok (.iaload, 1) := by decide +kernel
theorem dX8_sampleSize_16 : decode cX8_sampleSize 16 = .ok (.if_icmp .le 9, 3) := by decide +kernel
theorem dX8_sampleSize_19 : decode cX8_sampleSize 19 = .ok (.iinc 2 1, 3) := by decide +kernel
theorem dX8_sampleSize_22 : decode cX8_sampleSize 22 = .ok (.goto (-20), 3) := by decide +kernel
theorem dX8_sampleSize_25 : decode cX8_sampleSize 25 = .ok (.iload_n 1, 1) := by decide +kernel
theorem dX8_sampleSize_26 : decode cX8_sampleSize 26 = .ok (.iconst 2, 1) := by decide +kernel
theorem dX8_sampleSize_27 : decode cX8_sampleSize 27 = .ok (.if_icmp .ne 11, 3) := by decide +kernel
theorem dX8_sampleSize_30 : decode cX8_sampleSize 30 = .ok (.iload_n 2, 1) := by decide +kernel
theorem dX8_sampleSize_31 : decode cX8_sampleSize 31 = .ok (.iconst 2, 1) := by decide +kernel
theorem dX8_sampleSize_32 : decode cX8_sampleSize 32 = .ok (.isub, 1) := by decide +kernel
theorem dX8_sampleSize_33 : decode cX8_sampleSize 33 = .ok (.iconst 0, 1) := by decide +kernel
theorem dX8_sampleSize_34 : decode cX8_sampleSize 34 = .ok (.invokestatic 49, 3) := by decide +kernel
theorem dX8_sampleSize_37 : decode cX8_sampleSize 37 = .ok (.istore_n 2, 1) := by decide +kernel
theorem dX8_sampleSize_38 : decode cX8_sampleSize 38 = .ok (.iload_n 2, 1) := by decide +kernel
theorem dX8_sampleSize_39 : decode cX8_sampleSize 39 = .ok (.getstatic 55, 3) := by decide +kernel
theorem dX8_sampleSize_42 : decode cX8_sampleSize 42 = .ok (.arraylength, 1) := by decide +kernel
theorem dX8_sampleSize_43 : decode cX8_sampleSize 43 = .ok (.if_icmp .ge 11, 3) := by decide +kernel
theorem dX8_sampleSize_46 : decode cX8_sampleSize 46 = .ok (.getstatic 55, 3) := by decide +kernel
theorem dX8_sampleSize_49 : decode cX8_sampleSize 49 = .ok (.iload_n 2, 1) := by decide +kernel
theorem dX8_sampleSize_50 : decode cX8_sampleSize 50 = .ok (.iaload, 1) := by decide +kernel
theorem dX8_sampleSize_51 : decode cX8_sampleSize 51 = .ok (.goto 4, 3) := by decide +kernel
theorem dX8_sampleSize_54 : decode cX8_sampleSize 54 = .ok (.iconst 0, 1) := by decide +kernel
theorem dX8_sampleSize_55 : decode cX8_sampleSize 55 = .ok (.istore_n 3, 1) := by decide +kernel
theorem dX8_sampleSize_56 : decode cX8_sampleSize 56 = .ok (.iload_n 3, 1) := by decide +kernel
theorem dX8_sampleSize_57 : decode cX8_sampleSize 57 = .ok (.iload_n 0, 1) := by decide +kernel
theorem dX8_sampleSize_58 : decode cX8_sampleSize 58 = .ok (.invokestatic 58, 3) := by decide +kernel
theorem dX8_sampleSize_61 : decode cX8_sampleSize 61 = .ok (.ireturn, 1) := by decide +kernel
theorem dX8_allowedIn_0 : decode cX8_allowedIn 0 = .ok (.iload_n 1, 1) := by decide +kernel
theorem dX8_allowedIn_1 : decode cX8_allowedIn 1 = .ok (.aload_n 0, 1) := by decide +kernel
theorem dX8_allowedIn_2 : decode cX8_allowedIn 2 = .ok (.getfield 9, 3) := by decide +kernel
theorem dX8_allowedIn_5 : decode cX8_allowedIn 5 = .ok (.imul, 1) := by decide +kernel
theorem dX8_allowedIn_6 : decode cX8_allowedIn 6 = .ok (.bipush 100, 2) := by decide +kernel
theorem dX8_allowedIn_8 : decode cX8_allowedIn 8 = .ok (.idiv, 1) := by decide +kernel
theorem dX8_allowedIn_9 : decode cX8_allowedIn 9 = .ok (.istore_n 3, 1) := by decide +kernel
theorem dX8_allowedIn_10 : decode cX8_allowedIn 10 = .ok (.iload_n 2, 1) := by decide +kernel
theorem dX8_allowedIn_11 : decode cX8_allowedIn 11 = .ok (.iconst 1, 1) := by decide +kernel
theorem dX8_allowedIn_12 : decode cX8_allowedIn 12 = .ok (.if_icmp .ne 11, 3) := by decide +kernel
theorem dX8_allowedIn_15 : decode cX8_allowedIn 15 = .ok (.iload_n 3, 1) := by decide +kernel
theorem dX8_allowedIn_16 : decode cX8_allowedIn 16 = .ok (.iconst 1, 1) := by decide +kernel
theorem dX8_allowedIn_17 : decode cX8_allowedIn 17 = .ok (.isub, 1) := by decide +kernel
theorem dX8_allowedIn_18 : decode cX8_allowedIn 18 = .ok (.iconst 0, 1) := by decide +kernel
theorem dX8_allowedIn_19 : decode cX8_allowedIn 19 = .ok (.invokestatic 49, 3) := by decide +kernel
theorem dX8_allowedIn_22 : decode cX8_allowedIn 22 = .ok (.ireturn, 1) := by decide +kernel
theorem dX8_allowedIn_23 : decode cX8_allowedIn 23 = .ok (.iload_n 2, 1) := by decide +kernel
theorem dX8_allowedIn_24 : decode cX8_allowedIn 24 = .ok (.iconst 2, 1) := by decide +kernel
theorem dX8_allowedIn_25 : decode cX8_allowedIn 25 = .ok (.if_icmp .ne 9, 3) := by decide +kernel
theorem dX8_allowedIn_28 : decode cX8_allowedIn 28 = .ok (.iload_n 3, 1) := by decide +kernel
theorem dX8_allowedIn_29 : decode cX8_allowedIn 29 = .ok (.iconst 1, 1) := by decide +kernel
theorem dX8_allowedIn_30 : decode cX8_allowedIn 30 = .ok (.iadd, 1) := by decide +kernel
theorem dX8_allowedIn_31 : decode cX8_allowedIn 31 = .ok (.goto 4, 3) := by decide +kernel
theorem dX8_allowedIn_34 : decode cX8_allowedIn 34 = .ok (.iload_n 3, 1) := by decide +kernel
theorem dX8_allowedIn_35 : decode cX8_allowedIn 35 = .ok (.ireturn, 1) := by decide +kernel
theorem dX8_remember_0 : decode cX8_remember 0 = .ok (.iload_n 1, 1) := by decide +kernel
theorem dX8_remember_1 : decode cX8_remember 1 = .ok (.iload_n 2, 1) := by decide +kernel
theorem dX8_remember_2 : decode cX8_remember 2 = .ok (.if_icmp .le 7, 3) := by decide +kernel
theorem dX8_remember_5 : decode cX8_remember 5 = .ok (.iconst 1, 1) := by decide +kernel
theorem dX8_remember_6 : decode cX8_remember 6 = .ok (.goto 4, 3) := by decide +kernel
theorem dX8_remember_9 : decode cX8_remember 9 = .ok (.iconst 0, 1) := by decide +kernel
theorem dX8_remember_10 : decode cX8_remember 10 = .ok (.istore_n 3, 1) := by decide +kernel
theorem dX8_remember_11 : decode cX8_remember 11 = .ok (.aload_n 0, 1) := by decide +kernel
theorem dX8_remember_12 : decode cX8_remember 12 = .ok (.aload_n 0, 1) := by decide +kernel
theorem dX8_remember_13 : decode cX8_remember 13 = .ok (.getfield 30, 3) := by decide +kernel
theorem dX8_remember_16 : decode cX8_remember 16 = .ok (.iconst 1, 1) := by decide +kernel
theorem dX8_remember_17 : decode cX8_remember 17 = .ok (.ishl, 1) := by decide +kernel
theorem dX8_remember_18 : decode cX8_remember 18 = .ok (.iload_n 3, 1) := by decide +kernel
theorem dX8_remember_19 : decode cX8_remember 19 = .ok (.ifCond .eq 7, 3) := by decide +kernel
theorem dX8_remember_22 : decode cX8_remember 22 = .ok (.iconst 1, 1) := by decide +kernel
theorem dX8_remember_23 : decode cX8_remember 23 = .ok (.goto 4, 3) := by decide +kernel
theorem dX8_remember_26 : decode cX8_remember 26 = .ok (.iconst 0, 1) := by decide +kernel
theorem dX8_remember_27 : decode cX8_remember 27 = .ok (.ior, 1) := by decide +kernel
theorem dX8_remember_28 : decode cX8_remember 28 = .ok (.putfield 30, 3) := by decide +kernel
theorem dX8_remember_31 : decode cX8_remember 31 = .ok (.aload_n 0, 1) := by decide +kernel
theorem dX8_remember_32 : decode cX8_remember 32 = .ok (.dup, 1) := by decide +kernel
theorem dX8_remember_33 : decode cX8_remember 33 = .ok (.getfield 27, 3) := by decide +kernel
theorem dX8_remember_36 : decode cX8_remember 36 = .ok (.iconst 1, 1) := by decide +kernel
theorem dX8_remember_37 : decode cX8_remember 37 = .ok (.iadd, 1) := by decide +kernel
theorem dX8_remember_38 : decode cX8_remember 38 = .ok (.putfield 27, 3) := by decide +kernel
theorem dX8_remember_41 : decode cX8_remember 41 = .ok (.aload_n 0, 1) := by decide +kernel
theorem dX8_remember_42 : decode cX8_remember 42 = .ok (.getfield 21, 3) := by decide +kernel
theorem dX8_remember_45 : decode cX8_remember 45 = .ok (.ifCond .ne 23, 3) := by decide +kernel
theorem dX8_remember_48 : decode cX8_remember 48 = .ok (.aload_n 0, 1) := by decide +kernel
theorem dX8_remember_49 : decode cX8_remember 49 = .ok (.iload_n 3, 1) := by decide +kernel
theorem dX8_remember_50 : decode cX8_remember 50 = .ok (.iconst 2, 1) := by decide +kernel
theorem dX8_remember_51 : decode cX8_remember 51 = .ok (.iload_n 1, 1) := by decide +kernel
theorem dX8_remember_52 : decode cX8_remember 52 = .ok (.imul, 1) := by decide +kernel
theorem dX8_remember_53 : decode cX8_remember 53 = .ok (.iload_n 2, 1) := by decide +kernel
theorem dX8_remember_54 : decode cX8_remember 54 = .ok (.if_icmp .gt 7, 3) := by decide +kernel
theorem dX8_remember_57 : decode cX8_remember 57 = .ok (.iconst 1, 1) := by decide +kernel
theorem dX8_remember_58 : decode cX8_remember 58 = .ok (.goto 4, 3) := by decide +kernel
theorem dX8_remember_61 : decode cX8_remember 61 = .ok (.iconst 0, 1) := by decide +kernel
theorem dX8_remember_62 : decode cX8_remember 62 = .ok (.invokevirtual 61, 3) := by decide +kernel
theorem dX8_remember_65 : decode cX8_remember 65 = .ok (.goto 37, 3) := by decide +kernel
theorem dX8_remember_68 : decode cX8_remember 68 = .ok (.aload_n 0, 1) := by decide +kernel
theorem dX8_remember_69 : decode cX8_remember 69 = .ok (.getfield 21, 3) := by decide +kernel
theorem dX8_remember_72 : decode cX8_remember 72 = .ok (.iconst 1, 1) := by decide +kernel
theorem dX8_remember_73 : decode cX8_remember 73 = .ok (.if_icmp .ne 11, 3) := by decide +kernel
theorem dX8_remember_76 : decode cX8_remember 76 = .ok (.aload_n 0, 1) := by decide +kernel
theorem dX8_remember_77 : decode cX8_remember 77 = .ok (.iload_n 3, 1) := by decide +kernel
theorem dX8_remember_78 : decode cX8_remember 78 = .ok (.invokevirtual 65, 3) := by decide +kernel
theorem dX8_remember_81 : decode cX8_remember 81 = .ok (.goto 21, 3) := by decide +kernel
theorem dX8_remember_84 : decode cX8_remember 84 = .ok (.aload_n 0, 1) := by decide +kernel
theorem dX8_remember_85 : decode cX8_remember 85 = .ok (.getfield 21, 3) := by decide +kernel
theorem dX8_remember_88 : decode cX8_remember 88 = .ok (.iconst 2, 1) := by decide +kernel
theorem dX8_remember_89 : decode cX8_remember 89 = .ok (.if_icmp .ne 13, 3) := by decide +kernel
theorem dX8_remember_92 : decode cX8_remember 92 = .ok (.iload_n 1, 1) := by decide +kernel
theorem dX8_remember_93 : decode cX8_remember 93 = .ok (.iload_n 2, 1) := by decide +kernel
theorem dX8_remember_94 : decode cX8_remember 94 = .ok (.if_icmp .lt 8, 3) := by decide +kernel
theorem dX8_remember_97 : decode cX8_remember 97 = .ok (.aload_n 0, 1) := by decide +kernel
theorem dX8_remember_98 : decode cX8_remember 98 = .ok (.iconst 0, 1) := by decide +kernel
theorem dX8_remember_99 : decode cX8_remember 99 = .ok (.invokevirtual 69, 3) := by decide +kernel
theorem dX8_remember_102 : decode cX8_remember 102 = .ok (.return_, 1) := by decide +kernel
theorem dX8_switchFromNormal_0 : decode cX8_switchFromNormal 0 = .ok (.iload_n 1, 1) := by decide +kernel
theorem dX8_switchFromNormal_1 : decode cX8_switchFromNormal 1 = .ok (.ifCond .eq 25, 3) := by decide +kernel
theorem dX8_switchFromNormal_4 : decode cX8_switchFromNormal 4 = .ok (.aload_n 0, 1) := by decide +kernel
theorem dX8_switchFromNormal_5 : decode cX8_switchFromNormal 5 = .ok (.getfield 30, 3) := by decide +kernel
theorem dX8_switchFromNormal_8 : decode cX8_switchFromNormal 8 = .ok (.bipush 31, 2) := by decide +kernel
theorem dX8_switchFromNormal_10 : decode cX8_switchFromNormal 10 = .ok (.iand, 1) := by decide +kernel
theorem dX8_switchFromNormal_11 : decode cX8_switchFromNormal 11 = .ok (.invokestatic 39, 3) := by decide +kernel
theorem dX8_switchFromNormal_14 : decode cX8_switchFromNormal 14 = .ok (.iconst 2, 1) := by decide +kernel
theorem dX8_switchFromNormal_15 : decode cX8_switchFromNormal 15 = .ok (.if_icmp .lt 11, 3) := by decide +kernel
theorem dX8_switchFromNormal_18 : decode cX8_switchFromNormal 18 = .ok (.aload_n 0, 1) := by decide +kernel
theorem dX8_switchFromNormal_19 : decode cX8_switchFromNormal 19 = .ok (.iconst 1, 1) := by decide +kernel
theorem dX8_switchFromNormal_20 : decode cX8_switchFromNormal 20 = .ok (.invokevirtual 69, 3) := by decide +kernel
theorem dX8_switchFromNormal_23 : decode cX8_switchFromNormal 23 = .ok (.goto 43, 3) := by decide +kernel
theorem dX8_switchFromNormal_26 : decode cX8_switchFromNormal 26 = .ok (.iload_n 1, 1) := by decide +kernel
theorem dX8_switchFromNormal_27 : decode cX8_switchFromNormal 27 = .ok (.ifCond .ne 34, 3) := by decide +kernel
theorem dX8_switchFromNormal_30 : decode cX8_switchFromNormal 30 = .ok (.iload_n 2, 1) := by decide +kernel
theorem dX8_switchFromNormal_31 : decode cX8_switchFromNormal 31 = .ok (.ifCond .eq 30, 3) := by decide +kernel
theorem dX8_switchFromNormal_34 : decode cX8_switchFromNormal 34 = .ok (.aload_n 0, 1) := by decide +kernel
theorem dX8_switchFromNormal_35 : decode cX8_switchFromNormal 35 = .ok (.dup, 1) := by decide +kernel
theorem dX8_switchFromNormal_36 : decode cX8_switchFromNormal 36 = .ok (.getfield 24, 3) := by decide +kernel
theorem dX8_switchFromNormal_39 : decode cX8_switchFromNormal 39 = .ok (.iconst 3, 1) := by decide +kernel
theorem dX8_switchFromNormal_40 : decode cX8_switchFromNormal 40 = .ok (.iadd, 1) := by decide +kernel
theorem dX8_switchFromNormal_41 : decode cX8_switchFromNormal 41 = .ok (.putfield 24, 3) := by decide +kernel
theorem dX8_switchFromNormal_44 : decode cX8_switchFromNormal 44 = .ok (.aload_n 0, 1) := by decide +kernel
theorem dX8_switchFromNormal_45 : decode cX8_switchFromNormal 45 = .ok (.getfield 24, 3) := by decide +kernel
theorem dX8_switchFromNormal_48 : decode cX8_switchFromNormal 48 = .ok (.bipush 15, 2) := by decide +kernel
theorem dX8_switchFromNormal_50 : decode cX8_switchFromNormal 50 = .ok (.if_icmp .ne 16, 3) := by decide +kernel
theorem dX8_switchFromNormal_53 : decode cX8_switchFromNormal 53 = .ok (.aload_n 0, 1) := by decide +kernel
theorem dX8_switchFromNormal_54 : decode cX8_switchFromNormal 54 = .ok (.iconst 2, 1) := by decide +kernel
theorem dX8_switchFromNormal_55 : decode cX8_switchFromNormal 55 = .ok (.invokevirtual 69, 3) := by decide +kernel
theorem dX8_switchFromNormal_58 : decode cX8_switchFromNormal 58 = .ok (.goto 8, 3) := by decide +kernel
theorem dX8_switchFromNormal_61 : decode cX8_switchFromNormal 61 = .ok (.aload_n 0, 1) := by decide +kernel
theorem dX8_switchFromNormal_62 : decode cX8_switchFromNormal 62 = .ok (.iconst 0, 1) := by decide +kernel
theorem dX8_switchFromNormal_63 : decode cX8_switchFromNormal 63 = .ok (.putfield 24, 3) := by decide +kernel
theorem dX8_switchFromNormal_66 : decode cX8_switchFromNormal 66 = .ok (.return_, 1) := by decide +kernel
theorem dX8_switchFromTightened_0 : decode cX8_switchFromTightened 0 = .ok (.iload_n 1, 1) := by decide +kernel
theorem dX8_switchFromTightened_1 : decode cX8_switchFromTightened 1 = .ok (.ifCond .eq 22, 3) := by decide +kernel
theorem dX8_switchFromTightened_4 : decode cX8_switchFromTightened 4 = .ok (.aload_n 0, 1) := by decide +kernel
theorem dX8_switchFromTightened_5 : decode cX8_switchFromTightened 5 = .ok (.getfield 30, 3) := by decide +kernel
theorem dX8_switchFromTightened_8 : decode cX8_switchFromTightened 8 = .ok (.invokestatic 39, 3) := by decide +kernel
theorem dX8_switchFromTightened_11 : decode cX8_switchFromTightened 11 = .ok (.iconst 5, 1) := by decide +kernel
theorem dX8_switchFromTightened_12 : decode cX8_switchFromTightened 12 = .ok (.if_icmp .lt 34, 3) := by decide +kernel
theorem dX8_switchFromTightened_15 : decode cX8_switchFromTightened 15 = .ok (.aload_n 0, 1) := by decide +kernel
theorem dX8_switchFromTightened_16 : decode cX8_switchFromTightened 16 = .ok (.iconst 3, 1) := by decide +kernel
theorem dX8_switchFromTightened_17 : decode cX8_switchFromTightened 17 = .ok (.invokevirtual 69, 3) := by decide +kernel
theorem dX8_switchFromTightened_20 : decode cX8_switchFromTightened 20 = .ok (.goto 26, 3) := by decide +kernel
theorem dX8_switchFromTightened_23 : decode cX8_switchFromTightened 23 = .ok (.aload_n 0, 1) := by decide +kernel
theorem dX8_switchFromTightened_24 : decode cX8_switchFromTightened 24 = .ok (.getfield 27, 3) := by decide +kernel
theorem dX8_switchFromTightened_27 : decode cX8_switchFromTightened 27 = .ok (.iconst 5, 1) := by decide +kernel
theorem dX8_switchFromTightened_28 : decode cX8_switchFromTightened 28 = .ok (.if_icmp .lt 18, 3) := by decide +kernel
theorem dX8_switchFromTightened_31 : decode cX8_switchFromTightened 31 = .ok (.aload_n 0, 1) := by decide +kernel
theorem dX8_switchFromTightened_32 : decode cX8_switchFromTightened 32 = .ok (.getfield 30, 3) := by decide +kernel
theorem dX8_switchFromTightened_35 : decode cX8_switchFromTightened 35 = .ok (.bipush 31, 2) := by decide +kernel
theorem dX8_switchFromTightened_37 : decode cX8_switchFromTightened 37 = .ok (.iand, 1) := by decide +kernel
theorem dX8_switchFromTightened_38 : decode cX8_switchFromTightened 38 = .ok (.ifCond .ne 8, 3) := by decide +kernel
theorem dX8_switchFromTightened_41 : decode cX8_switchFromTightened 41 = .ok (.aload_n 0, 1) := by decide +kernel
theorem dX8_switchFromTightened_42 : decode cX8_switchFromTightened 42 = .ok (.iconst 0, 1) := by decide +kernel
theorem dX8_switchFromTightened_43 : decode cX8_switchFromTightened 43 = .ok (.invokevirtual 69, 3) := by decide +kernel
theorem dX8_switchFromTightened_46 : decode cX8_switchFromTightened 46 = .ok (.return_, 1) := by decide +kernel
theorem dX8_become_0 : decode cX8_become 0 = .ok (.aload_n 0, 1) := by decide +kernel
theorem dX8_become_1 : decode cX8_become 1 = .ok (.iload_n 1, 1) := by decide +kernel
theorem dX8_become_2 : decode cX8_become 2 = .ok (.putfield 21, 3) := by decide +kernel
theorem dX8_become_5 : decode cX8_become 5 = .ok (.aload_n 0, 1) := by decide +kernel
theorem dX8_become_6 : decode cX8_become 6 = .ok (.iconst 0, 1) := by decide +kernel
theorem dX8_become_7 : decode cX8_become 7 = .ok (.putfield 24, 3) := by decide +kernel
theorem dX8_become_10 : decode cX8_become 10 = .ok (.aload_n 0, 1) := by decide +kernel
theorem dX8_become_11 : decode cX8_become 11 = .ok (.iconst 0, 1) := by decide +kernel
theorem dX8_become_12 : decode cX8_become 12 = .ok (.putfield 27, 3) := by decide +kernel
theorem dX8_become_15 : decode cX8_become 15 = .ok (.aload_n 0, 1) := by decide +kernel
theorem dX8_become_16 : decode cX8_become 16 = .ok (.iconst 0, 1) := by decide +kernel
theorem dX8_become_17 : decode cX8_become 17 = .ok (.putfield 30, 3) := by decide +kernel
theorem dX8_become_20 : decode cX8_become 20 = .ok (.return_, 1) := by decide +kernel
theorem dX9_init_0 : decode cX9_init 0 = .ok (.aload_n 0, 1) := by decide +kernel
theorem dX9_init_1 : decode cX9_init 1 = .ok (.invokespecial 3, 3) := by decide +kernel
theorem dX9_init_4 : decode cX9_init 4 = .ok (.aload_n 0, 1) := by decide +kernel
theorem dX9_init_5 : decode cX9_init 5 = .ok (.sipush 4800, 3) := by decide +kernel
theorem dX9_init_8 : decode cX9_init 8 = .ok (.newarray .boolean, 2) := by decide +kernel
theorem dX9_init_10 : decode cX9_init 10 = .ok (.putfield 9, 3) := by decide +kernel
theorem dX9_init_13 : decode cX9_init 13 = .ok (.return_, 1) := by decide +kernel
theorem dX9_follow_0 : decode cX9_follow 0 = .ok (.iconst 0, 1) := by decide +kernel
theorem dX9_follow_1 : decode cX9_follow 1 = .ok (.istore_n 3, 1) := by decide +kernel
theorem dX9_follow_2 : decode cX9_follow 2 = .ok (.iload_n 3, 1) := by decide +kernel
theorem dX9_follow_3 : decode cX9_follow 3 = .ok (.aload_n 0, 1) := by decide +kernel
theorem dX9_follow_4 : decode cX9_follow 4 = .ok (.getfield 9, 3) := by decide +kernel
theorem dX9_follow_7 : decode cX9_follow 7 = .ok (.arraylength, 1) := by decide +kernel
theorem dX9_follow_8 : decode cX9_follow 8 = .ok (.if_icmp .ge 16, 3) := by decide +kernel
theorem dX9_follow_11 : decode cX9_follow 11 = .ok (.aload_n 0, 1) := by decide +kernel
theorem dX9_follow_12 : decode cX9_follow 12 = .ok (.getfield 9, 3) := by decide +kernel
theorem dX9_follow_15 : decode cX9_follow 15 = .ok (.iload_n 3, 1) := by decide +kernel
theorem dX9_follow_16 : decode cX9_follow 16 = .ok (.iconst 0, 1) := by decide +kernel
theorem dX9_follow_17 : decode cX9_follow 17 = .ok (.bastore, 1) := by decide +kernel
theorem dX9_follow_18 : decode cX9_follow 18 = .ok (.iinc 3 1, 3) := by decide +kernel
theorem dX9_follow_21 : decode cX9_follow 21 = .ok (.goto (-19), 3) := by decide +kernel
theorem dX9_follow_24 : decode cX9_follow 24 = .ok (.aload_n 0, 1) := by decide +kernel
theorem dX9_follow_25 : decode cX9_follow 25 = .ok (.iconst 0, 1) := by decide +kernel
theorem dX9_follow_26 : decode cX9_follow 26 = .ok (.putfield 15, 3) := by decide +kernel
theorem dX9_follow_29 : decode cX9_follow 29 = .ok (.iload_n 2, 1) := by decide +kernel
theorem dX9_follow_30 : decode cX9_follow 30 = .ok (.istore_n 3, 1) := by decide +kernel
theorem dX9_follow_31 : decode cX9_follow 31 = .ok (.iload_n 3, 1) := by decide +kernel
theorem dX9_follow_32 : decode cX9_follow 32 = .ok (.aload_n 1, 1) := by decide +kernel
theorem dX9_follow_33 : decode cX9_follow 33 = .ok (.getfield 19, 3) := by decide +kernel
theorem dX9_follow_36 : decode cX9_follow 36 = .ok (.if_icmp .ge 102, 3) := by decide +kernel
theorem dX9_follow_39 : decode cX9_follow 39 = .ok (.aload_n 1, 1) := by decide +kernel
theorem dX9_follow_40 : decode cX9_follow 40 = .ok (.iload_n 3, 1) := by decide +kernel
theorem dX9_follow_41 : decode cX9_follow 41 = .ok (.invokevirtual 24, 3) := by decide +kernel
theorem dX9_follow_44 : decode cX9_follow 44 = .ok (.astore 4, 2) := by decide +kernel
theorem dX9_follow_46 : decode cX9_follow 46 = .ok (.iconst 0, 1) := by decide +kernel
theorem dX9_follow_47 : decode cX9_follow 47 = .ok (.istore 5, 2) := by decide +kernel
theorem dX9_follow_49 : decode cX9_follow 49 = .ok (.aload 4, 2) := by decide +kernel
theorem dX9_follow_51 : decode cX9_follow 51 = .ok (.ifnull 81, 3) := by decide +kernel
theorem dX9_follow_54 : decode cX9_follow 54 = .ok (.iload 5, 2) := by decide +kernel
theorem dX9_follow_56 : decode cX9_follow 56 = .ok (.aload 4, 2) := by decide +kernel
theorem dX9_follow_58 : decode cX9_follow 58 = .ok (.getfield 28, 3) := by decide +kernel
theorem dX9_follow_61 : decode cX9_follow 61 = .ok (.if_icmp .ge 71, 3) := by decide +kernel
theorem dX9_follow_64 : decode cX9_follow 64 = .ok (.iload_n 3, 1) := by decide +kernel
theorem dX9_follow_65 : decode cX9_follow 65 = .ok (.iload_n 2, 1) := by decide +kernel
theorem dX9_follow_66 : decode cX9_follow 66 = .ok (.if_icmp .eq 13, 3) := by decide +kernel
theorem dX9_follow_69 : decode cX9_follow 69 = .ok (.aload_n 0, 1) := by decide +kernel
theorem dX9_follow_70 : decode cX9_follow 70 = .ok (.iload_n 3, 1) := by decide +kernel
theorem dX9_follow_71 : decode cX9_follow 71 = .ok (.iload 5, 2) := by decide +kernel
theorem dX9_follow_73 : decode cX9_follow 73 = .ok (.invokevirtual 33, 3) := by decide +kernel
theorem dX9_follow_76 : decode cX9_follow 76 = .ok (.ifCond .eq 50, 3) := by decide +kernel
theorem dX9_follow_79 : decode cX9_follow 79 = .ok (.aload_n 0, 1) := by decide +kernel
theorem dX9_follow_80 : decode cX9_follow 80 = .ok (.dup, 1) := by decide +kernel
theorem dX9_follow_81 : decode cX9_follow 81 = .ok (.getfield 15, 3) := by decide +kernel
theorem dX9_follow_84 : decode cX9_follow 84 = .ok (.iconst 1, 1) := by decide +kernel
theorem dX9_follow_85 : decode cX9_follow 85 = .ok (.iload_n 3, 1) := by decide +kernel
theorem dX9_follow_86 : decode cX9_follow 86 = .ok (.ishl, 1) := by decide +kernel
theorem dX9_follow_87 : decode cX9_follow 87 = .ok (.ior, 1) := by decide +kernel
theorem dX9_follow_88 : decode cX9_follow 88 = .ok (.putfield 15, 3) := by decide +kernel
theorem dX9_follow_91 : decode cX9_follow 91 = .ok (.aload_n 0, 1) := by decide +kernel
theorem dX9_follow_92 : decode cX9_follow 92 = .ok (.iload_n 3, 1) := by decide +kernel
theorem dX9_follow_93 : decode cX9_follow 93 = .ok (.iload 5, 2) := by decide +kernel
theorem dX9_follow_95 : decode cX9_follow 95 = .ok (.invokevirtual 37, 3) := by decide +kernel
theorem dX9_follow_98 : decode cX9_follow 98 = .ok (.aload_n 0, 1) := by decide +kernel
theorem dX9_follow_99 : decode cX9_follow 99 = .ok (.aload 4, 2) := by decide +kernel
theorem dX9_follow_101 : decode cX9_follow 101 = .ok (.getfield 41, 3) := by decide +kernel
theorem dX9_follow_104 : decode cX9_follow 104 = .ok (.iload 5, 2) := by decide +kernel
theorem dX9_follow_106 : decode cX9_follow 106 = .ok (.iaload, 1) := by decide +kernel
theorem dX9_follow_107 : decode cX9_follow 107 = .ok (.sipush 1000, 3) := by decide +kernel
theorem dX9_follow_110 : decode cX9_follow 110 = .ok (.idiv, 1) := by decide +kernel
theorem dX9_follow_111 : decode cX9_follow 111 = .ok (.aload 4, 2) := by decide +kernel
theorem dX9_follow_113 : decode cX9_follow 113 = .ok (.getfield 41, 3) := by decide +kernel
theorem dX9_follow_116 : decode cX9_follow 116 = .ok (.iload 5, 2) := by decide +kernel
theorem dX9_follow_118 : decode cX9_follow 118 = .ok (.iaload, 1) := by decide +kernel
theorem dX9_follow_119 : decode cX9_follow 119 = .ok (.sipush 1000, 3) := by decide +kernel
theorem dX9_follow_122 : decode cX9_follow 122 = .ok (.irem, 1) := by decide +kernel
theorem dX9_follow_123 : decode cX9_follow 123 = .ok (.invokevirtual 37, 3) := by decide +kernel
theorem dX9_follow_126 : decode cX9_follow 126 = .ok (.iinc 5 1, 3) := by decide +kernel
theorem dX9_follow_129 : decode cX9_follow 129 = .ok (.goto (-80), 3) := by decide +kernel
theorem dX9_follow_132 : decode cX9_follow 132 = .ok (.iinc 3 1, 3) := by decide +kernel
theorem dX9_follow_135 : decode cX9_follow 135 = .ok (.goto (-104), 3) := by decide +kernel
theorem dX9_follow_138 : decode cX9_follow 138 = .ok (.return_, 1) := by decide +kernel
theorem dX9_mark_0 : decode cX9_mark 0 = .ok (.iload_n 1, 1) := by decide +kernel
theorem dX9_mark_1 : decode cX9_mark 1 = .ok (.sipush 200, 3) := by decide +kernel
theorem dX9_mark_4 : decode cX9_mark 4 = .ok (.imul, 1) := by decide +kernel
theorem dX9_mark_5 : decode cX9_mark 5 = .ok (.iload_n 2, 1) := by decide +kernel
theorem dX9_mark_6 : decode cX9_mark 6 = .ok (.iadd, 1) := by decide +kernel
theorem dX9_mark_7 : decode cX9_mark 7 = .ok (.istore_n 3, 1) := by decide +kernel
theorem dX9_mark_8 : decode cX9_mark 8 = .ok (.iload_n 3, 1) := by decide +kernel
theorem dX9_mark_9 : decode cX9_mark 9 = .ok (.ifCond .lt 19, 3) := by decide +kernel
theorem dX9_mark_12 : decode cX9_mark 12 = .ok (.iload_n 3, 1) := by decide +kernel
theorem dX9_mark_13 : decode cX9_mark 13 = .ok (.aload_n 0, 1) := by decide +kernel
theorem dX9_mark_14 : decode cX9_mark 14 = .ok (.getfield 9, 3) := by decide +kernel
theorem dX9_mark_17 : decode cX9_mark 17 = .ok (.arraylength, 1) := by decide +kernel
theorem dX9_mark_18 : decode cX9_mark 18 = .ok (.if_icmp .ge 10, 3) := by decide +kernel
theorem dX9_mark_21 : decode cX9_mark 21 = .ok (.aload_n 0, 1) := by decide +kernel
theorem dX9_mark_22 : decode cX9_mark 22 = .ok (.getfield 9, 3) := by decide +kernel
theorem dX9_mark_25 : decode cX9_mark 25 = .ok (.iload_n 3, 1) := by decide +kernel
theorem dX9_mark_26 : decode cX9_mark 26 = .ok (.iconst 1, 1) := by decide +kernel
theorem dX9_mark_27 : decode cX9_mark 27 = .ok (.bastore, 1) := by decide +kernel
theorem dX9_mark_28 : decode cX9_mark 28 = .ok (.return_, 1) := by decide +kernel
theorem dX9_isMarked_0 : decode cX9_isMarked 0 = .ok (.iload_n 1, 1) := by decide +kernel
theorem dX9_isMarked_1 : decode cX9_isMarked 1 = .ok (.sipush 200, 3) := by decide +kernel
theorem dX9_isMarked_4 : decode cX9_isMarked 4 = .ok (.imul, 1) := by decide +kernel
theorem dX9_isMarked_5 : decode cX9_isMarked 5 = .ok (.iload_n 2, 1) := by decide +kernel
theorem dX9_isMarked_6 : decode cX9_isMarked 6 = .ok (.iadd, 1) := by decide +kernel
theorem dX9_isMarked_7 : decode cX9_isMarked 7 = .ok (.istore_n 3, 1) := by decide +kernel
theorem dX9_isMarked_8 : decode cX9_isMarked 8 = .ok (.iload_n 3, 1) := by decide +kernel
theorem dX9_isMarked_9 : decode cX9_isMarked 9 = .ok (.ifCond .lt 25, 3) := by decide +kernel
theorem dX9_isMarked_12 : decode cX9_isMarked 12 = .ok (.iload_n 3, 1) := by decide +kernel
theorem dX9_isMarked_13 : decode cX9_isMarked 13 = .ok (.aload_n 0, 1) := by decide +kernel
theorem dX9_isMarked_14 : decode cX9_isMarked 14 = .ok (.getfield 9, 3) := by decide +kernel
theorem dX9_isMarked_17 : decode cX9_isMarked 17 = .ok (.arraylength, 1) := by decide +kernel
theorem dX9_isMarked_18 : decode cX9_isMarked 18 = .ok (.if_icmp .ge 16, 3) := by decide +kernel
theorem dX9_isMarked_21 : decode cX9_isMarked 21 = .ok (.aload_n 0, 1) := by decide +kernel
theorem dX9_isMarked_22 : decode cX9_isMarked 22 = .ok (.getfield 9, 3) := by decide +kernel
theorem dX9_isMarked_25 : decode cX9_isMarked 25 = .ok (.iload_n 3, 1) := by decide +kernel
theorem dX9_isMarked_26 : decode cX9_isMarked 26 = .ok (.baload, 1) := by decide +kernel
theorem dX9_isMarked_27 : decode cX9_isMarked 27 = .ok (.ifCond .eq 7, 3) := by decide +kernel
theorem dX9_isMarked_30 : decode cX9_isMarked 30 = .ok (.iconst 1, 1) := by decide +kernel
theorem dX9_isMarked_31 : decode cX9_isMarked 31 = .ok (.goto 4, 3) := by decide +kernel
theorem dX9_isMarked_34 : decode cX9_isMarked 34 = .ok (.iconst 0, 1) := by decide +kernel
theorem dX9_isMarked_35 : decode cX9_isMarked 35 = .ok (.ireturn, 1) := by decide +kernel
theorem dX9_unitsIn_0 : decode cX9_unitsIn 0 = .ok (.iconst 0, 1) := by decide +kernel
theorem dX9_unitsIn_1 : decode cX9_unitsIn 1 = .ok (.istore_n 3, 1) := by decide +kernel
theorem dX9_unitsIn_2 : decode cX9_unitsIn 2 = .ok (.iconst 0, 1) := by decide +kernel
theorem dX9_unitsIn_3 : decode cX9_unitsIn 3 = .ok (.istore 4, 2) := by decide +kernel
theorem dX9_unitsIn_5 : decode cX9_unitsIn 5 = .ok (.iload 4, 2) := by decide +kernel
theorem dX9_unitsIn_7 : decode cX9_unitsIn 7 = .ok (.aload_n 1, 1) := by decide +kernel
theorem dX9_unitsIn_8 : decode cX9_unitsIn 8 = .ok (.getfield 19, 3) := by decide +kernel
theorem dX9_unitsIn_11 : decode cX9_unitsIn 11 = .ok (.if_icmp .ge 67, 3) := by decide +kernel
theorem dX9_unitsIn_14 : decode cX9_unitsIn 14 = .ok (.aload_n 1, 1) := by decide +kernel
theorem dX9_unitsIn_15 : decode cX9_unitsIn 15 = .ok (.iload 4, 2) := by decide +kernel
theorem dX9_unitsIn_17 : decode cX9_unitsIn 17 = .ok (.invokevirtual 24, 3) := by decide +kernel
theorem dX9_unitsIn_20 : decode cX9_unitsIn 20 = .ok (.astore 5, 2) := by decide +kernel
theorem dX9_unitsIn_22 : decode cX9_unitsIn 22 = .ok (.iconst 0, 1) := by decide +kernel
theorem dX9_unitsIn_23 : decode cX9_unitsIn 23 = .ok (.istore 6, 2) := by decide +kernel
theorem dX9_unitsIn_25 : decode cX9_unitsIn 25 = .ok (.aload 5, 2) := by decide +kernel
theorem dX9_unitsIn_27 : decode cX9_unitsIn 27 = .ok (.ifnull 45, 3) := by decide +kernel
theorem dX9_unitsIn_30 : decode cX9_unitsIn 30 = .ok (.iload 6, 2) := by decide +kernel
theorem dX9_unitsIn_32 : decode cX9_unitsIn 32 = .ok (.aload 5, 2) := by decide +kernel
theorem dX9_unitsIn_34 : decode cX9_unitsIn 34 = .ok (.getfield 28, 3) := by decide +kernel
theorem dX9_unitsIn_37 : decode cX9_unitsIn 37 = .ok (.if_icmp .ge 35, 3) := by decide +kernel
theorem dX9_unitsIn_40 : decode cX9_unitsIn 40 = .ok (.aload_n 0, 1) := by decide +kernel
theorem dX9_unitsIn_41 : decode cX9_unitsIn 41 = .ok (.iload 4, 2) := by decide +kernel
theorem dX9_unitsIn_43 : decode cX9_unitsIn 43 = .ok (.iload 6, 2) := by decide +kernel
theorem dX9_unitsIn_45 : decode cX9_unitsIn 45 = .ok (.invokevirtual 33, 3) := by decide +kernel
theorem dX9_unitsIn_48 : decode cX9_unitsIn 48 = .ok (.ifCond .eq 18, 3) := by decide +kernel
theorem dX9_unitsIn_51 : decode cX9_unitsIn 51 = .ok (.aload 5, 2) := by decide +kernel
theorem dX9_unitsIn_53 : decode cX9_unitsIn 53 = .ok (.getfield 45, 3) := by decide +kernel
theorem dX9_unitsIn_56 : decode cX9_unitsIn 56 = .ok (.iload 6, 2) := by decide +kernel
theorem dX9_unitsIn_58 : decode cX9_unitsIn 58 = .ok (.iaload, 1) := by decide +kernel
theorem dX9_unitsIn_59 : decode cX9_unitsIn 59 = .ok (.iload_n 2, 1) := by decide +kernel
theorem dX9_unitsIn_60 : decode cX9_unitsIn 60 = .ok (.if_icmp .ne 6, 3) := by decide +kernel
theorem dX9_unitsIn_63 : decode cX9_unitsIn 63 = .ok (.iinc 3 1, 3) := by decide +kernel
theorem dX9_unitsIn_66 : decode cX9_unitsIn 66 = .ok (.iinc 6 1, 3) := by decide +kernel
theorem dX9_unitsIn_69 : decode cX9_unitsIn 69 = .ok (.goto (-44), 3) := by decide +kernel
theorem dX9_unitsIn_72 : decode cX9_unitsIn 72 = .ok (.iinc 4 1, 3) := by decide +kernel
theorem dX9_unitsIn_75 : decode cX9_unitsIn 75 = .ok (.goto (-70), 3) := by decide +kernel
theorem dX9_unitsIn_78 : decode cX9_unitsIn 78 = .ok (.iload_n 3, 1) := by decide +kernel
theorem dX9_unitsIn_79 : decode cX9_unitsIn 79 = .ok (.ireturn, 1) := by decide +kernel
theorem dX10_init_0 : decode cX10_init 0 = .ok (.aload_n 0, 1) := by decide +kernel
theorem dX10_init_1 : decode cX10_init 1 = .ok (.invokespecial 3, 3) := by decide +kernel
theorem dX10_init_4 : decode cX10_init 4 = .ok (.aload_n 0, 1) := by decide +kernel
theorem dX10_init_5 : decode cX10_init 5 = .ok (.new 9, 3) := by decide +kernel
theorem dX10_init_8 : decode cX10_init 8 = .ok (.dup, 1) := by decide +kernel
theorem dX10_init_9 : decode cX10_init 9 = .ok (.invokespecial 11, 3) := by decide +kernel
theorem dX10_init_12 : decode cX10_init 12 = .ok (.putfield 12, 3) := by decide +kernel
theorem dX10_init_15 : decode cX10_init 15 = .ok (.return_, 1) := by decide +kernel
theorem dX10_write_0 : decode cX10_write 0 = .ok (.aload_n 0, 1) := by decide +kernel
theorem dX10_write_1 : decode cX10_write 1 = .ok (.getfield 12, 3) := by decide +kernel
theorem dX10_write_4 : decode cX10_write 4 = .ok (.iconst 0, 1) := by decide +kernel
theorem dX10_write_5 : decode cX10_write 5 = .ok (.invokevirtual 18, 3) := by decide +kernel
theorem dX10_write_8 : decode cX10_write 8 = .ok (.aload_n 0, 1) := by decide +kernel
theorem dX10_write_9 : decode cX10_write 9 = .ok (.getfield 12, 3) := by decide +kernel
theorem dX10_write_12 : decode cX10_write 12 = .ok (.ldc 22, 2) := by decide +kernel
theorem dX10_write_14 : decode cX10_write 14 = .ok (.invokevirtual 24, 3) := by decide +kernel
theorem dX10_write_17 : decode cX10_write 17 = .ok (.iload_n 1, 1) := by decide +kernel
theorem dX10_write_18 : decode cX10_write 18 = .ok (.invokevirtual 28, 3) := by decide +kernel
theorem dX10_write_21 : decode cX10_write 21 = .ok (.pop, 1) := by decide +kernel
theorem dX10_write_22 : decode cX10_write 22 = .ok (.aload_n 0, 1) := by decide +kernel
theorem dX10_write_23 : decode cX10_write 23 = .ok (.getfield 12, 3) := by decide +kernel
theorem dX10_write_26 : decode cX10_write 26 = .ok (.ldc 31, 2) := by decide +kernel
theorem dX10_write_28 : decode cX10_write 28 = .ok (.invokevirtual 24, 3) := by decide +kernel
theorem dX10_write_31 : decode cX10_write 31 = .ok (.aload_n 2, 1) := by decide +kernel
theorem dX10_write_32 : decode cX10_write 32 = .ok (.getfield 33, 3) := by decide +kernel
theorem dX10_write_35 : decode cX10_write 35 = .ok (.invokevirtual 28, 3) := by decide +kernel
theorem dX10_write_38 : decode cX10_write 38 = .ok (.pop, 1) := by decide +kernel
theorem dX10_write_39 : decode cX10_write 39 = .ok (.aload_n 0, 1) := by decide +kernel
theorem dX10_write_40 : decode cX10_write 40 = .ok (.getfield 12, 3) := by decide +kernel
theorem dX10_write_43 : decode cX10_write 43 = .ok (.ldc 39, 2) := by decide +kernel
theorem dX10_write_45 : decode cX10_write 45 = .ok (.invokevirtual 24, 3) := by decide +kernel
theorem dX10_write_48 : decode cX10_write 48 = .ok (.aload_n 2, 1) := by decide +kernel
theorem dX10_write_49 : decode cX10_write 49 = .ok (.iconst 0, 1) := by decide +kernel
theorem dX10_write_50 : decode cX10_write 50 = .ok (.invokevirtual 41, 3) := by decide +kernel
theorem dX10_write_53 : decode cX10_write 53 = .ok (.invokevirtual 28, 3) := by decide +kernel
theorem dX10_write_56 : decode cX10_write 56 = .ok (.pop, 1) := by decide +kernel
theorem dX10_write_57 : decode cX10_write 57 = .ok (.aload_n 0, 1) := by decide +kernel
theorem dX10_write_58 : decode cX10_write 58 = .ok (.getfield 12, 3) := by decide +kernel
theorem dX10_write_61 : decode cX10_write 61 = .ok (.ldc 45, 2) := by decide +kernel
theorem dX10_write_63 : decode cX10_write 63 = .ok (.invokevirtual 24, 3) := by decide +kernel
theorem dX10_write_66 : decode cX10_write 66 = .ok (.aload_n 2, 1) := by decide +kernel
theorem dX10_write_67 : decode cX10_write 67 = .ok (.getfield 47, 3) := by decide +kernel
theorem dX10_write_70 : decode cX10_write 70 = .ok (.invokevirtual 28, 3) := by decide +kernel
theorem dX10_write_73 : decode cX10_write 73 = .ok (.ldc 50, 2) := by decide +kernel
theorem dX10_write_75 : decode cX10_write 75 = .ok (.invokevirtual 24, 3) := by decide +kernel
theorem dX10_write_78 : decode cX10_write 78 = .ok (.pop, 1) := by decide +kernel
theorem dX10_write_79 : decode cX10_write 79 = .ok (.aload_n 2, 1) := by decide +kernel
theorem dX10_write_80 : decode cX10_write 80 = .ok (.getfield 52, 3) := by decide +kernel
theorem dX10_write_83 : decode cX10_write 83 = .ok (.ifCond .ne 16, 3) := by decide +kernel
theorem dX10_write_86 : decode cX10_write 86 = .ok (.aload_n 0, 1) := by decide +kernel
theorem dX10_write_87 : decode cX10_write 87 = .ok (.getfield 12, 3) := by decide +kernel
theorem dX10_write_90 : decode cX10_write 90 = .ok (.ldc 55, 2) := by decide +kernel
theorem dX10_write_92 : decode cX10_write 92 = .ok (.invokevirtual 24, 3) := by decide +kernel
theorem dX10_write_95 : decode cX10_write 95 = .ok (.pop, 1) := by decide +kernel
theorem dX10_write_96 : decode cX10_write 96 = .ok (.goto 64, 3) := by decide +kernel
theorem dX10_write_99 : decode cX10_write 99 = .ok (.aload_n 0, 1) := by decide +kernel
theorem dX10_write_100 : decode cX10_write 100 = .ok (.getfield 12, 3) := by decide +kernel
theorem dX10_write_103 : decode cX10_write 103 = .ok (.aload_n 2, 1) := by decide +kernel
theorem dX10_write_104 : decode cX10_write 104 = .ok (.getfield 57, 3) := by decide +kernel
theorem dX10_write_107 : decode cX10_write 107 = .ok (.invokestatic 60, 3) := by decide +kernel
theorem dX10_write_110 : decode cX10_write 110 = .ok (.invokevirtual 24, 3) := by decide +kernel
theorem dX10_write_113 : decode cX10_write 113 = .ok (.pop, 1) := by decide +kernel
theorem dX10_write_114 : decode cX10_write 114 = .ok (.aload_n 0, 1) := by decide +kernel
theorem dX10_write_115 : decode cX10_write 115 = .ok (.getfield 12, 3) := by decide +kernel
theorem dX10_write_118 : decode cX10_write 118 = .ok (.bipush 32, 2) := by decide +kernel
theorem dX10_write_120 : decode cX10_write 120 = .ok (.invokevirtual 64, 3) := by decide +kernel
theorem dX10_write_123 : decode cX10_write 123 = .ok (.aload_n 2, 1) := by decide +kernel
theorem dX10_write_124 : decode cX10_write 124 = .ok (.getfield 67, 3) := by decide +kernel
theorem dX10_write_127 : decode cX10_write 127 = .ok (.invokevirtual 28, 3) := by decide +kernel
theorem dX10_write_130 : decode cX10_write 130 = .ok (.bipush 47, 2) := by decide +kernel
theorem dX10_write_132 : decode cX10_write 132 = .ok (.invokevirtual 64, 3) := by decide +kernel
theorem dX10_write_135 : decode cX10_write 135 = .ok (.aload_n 2, 1) := by decide +kernel
theorem dX10_write_136 : decode cX10_write 136 = .ok (.getfield 70, 3) := by decide +kernel
theorem dX10_write_139 : decode cX10_write 139 = .ok (.invokevirtual 28, 3) := by decide +kernel
theorem dX10_write_142 : decode cX10_write 142 = .ok (.pop, 1) := by decide +kernel
theorem dX10_write_143 : decode cX10_write 143 = .ok (.aload_n 0, 1) := by decide +kernel
theorem dX10_write_144 : decode cX10_write 144 = .ok (.getfield 12, 3) := by decide +kernel
theorem dX10_write_147 : decode cX10_write 147 = .ok (.ldc 73, 2) := by decide +kernel
theorem dX10_write_149 : decode cX10_write 149 = .ok (.invokevirtual 24, 3) := by decide +kernel
theorem dX10_write_152 : decode cX10_write 152 = .ok (.aload_n 2, 1) := by decide +kernel
theorem dX10_write_153 : decode cX10_write 153 = .ok (.getfield 75, 3) := by decide +kernel
theorem dX10_write_156 : decode cX10_write 156 = .ok (.invokevirtual 28, 3) := by decide +kernel
theorem dX10_write_159 : decode cX10_write 159 = .ok (.pop, 1) := by decide +kernel
theorem dX10_write_160 : decode cX10_write 160 = .ok (.aload_n 0, 1) := by decide +kernel
theorem dX10_write_161 : decode cX10_write 161 = .ok (.getfield 12, 3) := by decide +kernel
theorem dX10_write_164 : decode cX10_write 164 = .ok (.ldc 39, 2) := by decide +kernel
theorem dX10_write_166 : decode cX10_write 166 = .ok (.invokevirtual 24, 3) := by decide +kernel
theorem dX10_write_169 : decode cX10_write 169 = .ok (.aload_n 2, 1) := by decide +kernel
theorem dX10_write_170 : decode cX10_write 170 = .ok (.getfield 78, 3) := by decide +kernel
theorem dX10_write_173 : decode cX10_write 173 = .ok (.invokestatic 81, 3) := by decide +kernel
theorem dX10_write_176 : decode cX10_write 176 = .ok (.invokevirtual 24, 3) := by decide +kernel
theorem dX10_write_179 : decode cX10_write 179 = .ok (.pop, 1) := by decide +kernel
theorem dX10_write_180 : decode cX10_write 180 = .ok (.return_, 1) := by decide +kernel
theorem dX10_severityName_0 : decode cX10_severityName 0 = .ok (.iload_n 0, 1) := by decide +kernel
theorem dX10_severityName_1 : decode cX10_severityName 1 = .ok (.lookupswitch 33 #[(0, 27), (1, 30)], 27) := by decide +kernel
theorem dX10_severityName_28 : decode cX10_severityName 28 = .ok (.ldc 84, 2) := by decide +kernel
theorem dX10_severityName_30 : decode cX10_severityName 30 = .ok (.areturn, 1) := by decide +kernel
theorem dX10_severityName_31 : decode cX10_severityName 31 = .ok (.ldc 86, 2) := by decide +kernel
theorem dX10_severityName_33 : decode cX10_severityName 33 = .ok (.areturn, 1) := by decide +kernel
theorem dX10_severityName_34 : decode cX10_severityName 34 = .ok (.ldc 88, 2) := by decide +kernel
theorem dX10_severityName_36 : decode cX10_severityName 36 = .ok (.areturn, 1) := by decide +kernel
theorem dX10_statusName_0 : decode cX10_statusName 0 = .ok (.iload_n 0, 1) := by decide +kernel
theorem dX10_statusName_1 : decode cX10_statusName 1 = .ok (.tableswitch 36 0 2 #[27, 30, 33], 27) := by decide +kernel
theorem dX10_statusName_28 : decode cX10_statusName 28 = .ok (.ldc 90, 2) := by decide +kernel
theorem dX10_statusName_30 : decode cX10_statusName 30 = .ok (.areturn, 1) := by decide +kernel
theorem dX10_statusName_31 : decode cX10_statusName 31 = .ok (.ldc 92, 2) := by decide +kernel
theorem dX10_statusName_33 : decode cX10_statusName 33 = .ok (.areturn, 1) := by decide +kernel
theorem dX10_statusName_34 : decode cX10_statusName 34 = .ok (.ldc 94, 2) := by decide +kernel
theorem dX10_statusName_36 : decode cX10_statusName 36 = .ok (.areturn, 1) := by decide +kernel
theorem dX10_statusName_37 : decode cX10_statusName 37 = .ok (.ldc 96, 2) := by decide +kernel
theorem dX10_statusName_39 : decode cX10_statusName 39 = .ok (.areturn, 1) := by decide +kernel
theorem dX12_init_0 : decode cX12_init 0 = .ok (.aload_n 0, 1) := by decide +kernel
theorem dX12_init_1 : decode cX12_init 1 = .ok (.invokespecial 1, 3) := by decide +kernel
theorem dX12_init_4 : decode cX12_init 4 = .ok (.aload_n 0, 1) := by decide +kernel
theorem dX12_init_5 : decode cX12_init 5 = .ok (.new 7, 3) := by decide +kernel
theorem dX12_init_8 : decode cX12_init 8 = .ok (.dup, 1) := by decide +kernel
theorem dX12_init_9 : decode cX12_init 9 = .ok (.invokespecial 9, 3) := by decide +kernel
theorem dX12_init_12 : decode cX12_init 12 = .ok (.putfield 10, 3) := by decide +kernel
theorem dX12_init_15 : decode cX12_init 15 = .ok (.aload_n 0, 1) := by decide +kernel
theorem dX12_init_16 : decode cX12_init 16 = .ok (.new 7, 3) := by decide +kernel
theorem dX12_init_19 : decode cX12_init 19 = .ok (.dup, 1) := by decide +kernel
theorem dX12_init_20 : decode cX12_init 20 = .ok (.invokespecial 9, 3) := by decide +kernel
theorem dX12_init_23 : decode cX12_init 23 = .ok (.putfield 16, 3) := by decide +kernel
theorem dX12_init_26 : decode cX12_init 26 = .ok (.aload_n 0, 1) := by decide +kernel
theorem dX12_init_27 : decode cX12_init 27 = .ok (.bipush 8, 2) := by decide +kernel
theorem dX12_init_29 : decode cX12_init 29 = .ok (.anewarray 7, 3) := by decide +kernel
theorem dX12_init_32 : decode cX12_init 32 = .ok (.putfield 19, 3) := by decide +kernel
theorem dX12_init_35 : decode cX12_init 35 = .ok (.aload_n 0, 1) := by decide +kernel
theorem dX12_init_36 : decode cX12_init 36 = .ok (.new 7, 3) := by decide +kernel
theorem dX12_init_39 : decode cX12_init 39 = .ok (.dup, 1) := by decide +kernel
theorem dX12_init_40 : decode cX12_init 40 = .ok (.invokespecial 9, 3) := by decide +kernel
theorem dX12_init_43 : decode cX12_init 43 = .ok (.putfield 23, 3) := by decide +kernel
theorem dX12_init_46 : decode cX12_init 46 = .ok (.aload_n 0, 1) := by decide +kernel
theorem dX12_init_47 : decode cX12_init 47 = .ok (.iconst 4, 1) := by decide +kernel
theorem dX12_init_48 : decode cX12_init 48 = .ok (.anewarray 26, 3) := by decide +kernel
theorem dX12_init_51 : decode cX12_init 51 = .ok (.putfield 28, 3) := by decide +kernel
theorem dX12_init_54 : decode cX12_init 54 = .ok (.aload_n 0, 1) := by decide +kernel
theorem dX12_init_55 : decode cX12_init 55 = .ok (.new 32, 3) := by decide +kernel
theorem dX12_init_58 : decode cX12_init 58 = .ok (.dup, 1) := by decide +kernel
theorem dX12_init_59 : decode cX12_init 59 = .ok (.invokespecial 34, 3) := by decide +kernel
theorem dX12_init_62 : decode cX12_init 62 = .ok (.putfield 35, 3) := by decide +kernel
theorem dX12_init_65 : decode cX12_init 65 = .ok (.aload_n 0, 1) := by decide +kernel
theorem dX12_init_66 : decode cX12_init 66 = .ok (.new 39, 3) := by decide +kernel
theorem dX12_init_69 : decode cX12_init 69 = .ok (.dup, 1) := by decide +kernel
theorem dX12_init_70 : decode cX12_init 70 = .ok (.invokespecial 41, 3) := by decide +kernel
theorem dX12_init_73 : decode cX12_init 73 = .ok (.putfield 42, 3) := by decide +kernel
theorem dX12_init_76 : decode cX12_init 76 = .ok (.aload_n 0, 1) := by decide +kernel
theorem dX12_init_77 : decode cX12_init 77 = .ok (.new 46, 3) := by decide +kernel
theorem dX12_init_80 : decode cX12_init 80 = .ok (.dup, 1) := by decide +kernel
theorem dX12_init_81 : decode cX12_init 81 = .ok (.invokespecial 48, 3) := by decide +kernel
theorem dX12_init_84 : decode cX12_init 84 = .ok (.putfield 49, 3) := by decide +kernel
theorem dX12_init_87 : decode cX12_init 87 = .ok (.aload_n 0, 1) := by decide +kernel
theorem dX12_init_88 : decode cX12_init 88 = .ok (.new 53, 3) := by decide +kernel
theorem dX12_init_91 : decode cX12_init 91 = .ok (.dup, 1) := by decide +kernel
theorem dX12_init_92 : decode cX12_init 92 = .ok (.invokespecial 55, 3) := by decide +kernel
theorem dX12_init_95 : decode cX12_init 95 = .ok (.putfield 56, 3) := by decide +kernel
theorem dX12_init_98 : decode cX12_init 98 = .ok (.aload_n 0, 1) := by decide +kernel
theorem dX12_init_99 : decode cX12_init 99 = .ok (.new 60, 3) := by decide +kernel
theorem dX12_init_102 : decode cX12_init 102 = .ok (.dup, 1) := by decide +kernel
theorem dX12_init_103 : decode cX12_init 103 = .ok (.invokespecial 62, 3) := by decide +kernel
theorem dX12_init_106 : decode cX12_init 106 = .ok (.putfield 63, 3) := by decide +kernel
theorem dX12_init_109 : decode cX12_init 109 = .ok (.iconst 0, 1) := by decide +kernel
theorem dX12_init_110 : decode cX12_init 110 = .ok (.istore_n 1, 1) := by decide +kernel
theorem dX12_init_111 : decode cX12_init 111 = .ok (.iload_n 1, 1) := by decide +kernel
theorem dX12_init_112 : decode cX12_init 112 = .ok (.aload_n 0, 1) := by decide +kernel
theorem dX12_init_113 : decode cX12_init 113 = .ok (.getfield 19, 3) := by decide +kernel
theorem dX12_init_116 : decode cX12_init 116 = .ok (.arraylength, 1) := by decide +kernel
theorem dX12_init_117 : decode cX12_init 117 = .ok (.if_icmp .ge 22, 3) := by decide +kernel
theorem dX12_init_120 : decode cX12_init 120 = .ok (.aload_n 0, 1) := by decide +kernel
theorem dX12_init_121 : decode cX12_init 121 = .ok (.getfield 19, 3) := by decide +kernel
theorem dX12_init_124 : decode cX12_init 124 = .ok (.iload_n 1, 1) := by decide +kernel
theorem dX12_init_125 : decode cX12_init 125 = .ok (.new 7, 3) := by decide +kernel
theorem dX12_init_128 : decode cX12_init 128 = .ok (.dup, 1) := by decide +kernel
theorem dX12_init_129 : decode cX12_init 129 = .ok (.invokespecial 9, 3) := by decide +kernel
theorem dX12_init_132 : decode cX12_init 132 = .ok (.aastore, 1) := by decide +kernel
theorem dX12_init_133 : decode cX12_init 133 = .ok (.iinc 1 1, 3) := by decide +kernel
theorem dX12_init_136 : decode cX12_init 136 = .ok (.goto (-25), 3) := by decide +kernel
theorem dX12_init_139 : decode cX12_init 139 = .ok (.iconst 0, 1) := by decide +kernel
theorem dX12_init_140 : decode cX12_init 140 = .ok (.istore_n 1, 1) := by decide +kernel
theorem dX12_init_141 : decode cX12_init 141 = .ok (.iload_n 1, 1) := by decide +kernel
theorem dX12_init_142 : decode cX12_init 142 = .ok (.aload_n 0, 1) := by decide +kernel
theorem dX12_init_143 : decode cX12_init 143 = .ok (.getfield 28, 3) := by decide +kernel
theorem dX12_init_146 : decode cX12_init 146 = .ok (.arraylength, 1) := by decide +kernel
theorem dX12_init_147 : decode cX12_init 147 = .ok (.if_icmp .ge 22, 3) := by decide +kernel
theorem dX12_init_150 : decode cX12_init 150 = .ok (.aload_n 0, 1) := by decide +kernel
theorem dX12_init_151 : decode cX12_init 151 = .ok (.getfield 28, 3) := by decide +kernel
theorem dX12_init_154 : decode cX12_init 154 = .ok (.iload_n 1, 1) := by decide +kernel
theorem dX12_init_155 : decode cX12_init 155 = .ok (.new 26, 3) := by decide +kernel
theorem dX12_init_158 : decode cX12_init 158 = .ok (.dup, 1) := by decide +kernel
theorem dX12_init_159 : decode cX12_init 159 = .ok (.invokespecial 67, 3) := by decide +kernel
theorem dX12_init_162 : decode cX12_init 162 = .ok (.aastore, 1) := by decide +kernel
theorem dX12_init_163 : decode cX12_init 163 = .ok (.iinc 1 1, 3) := by decide +kernel
theorem dX12_init_166 : decode cX12_init 166 = .ok (.goto (-25), 3) := by decide +kernel
theorem dX12_init_169 : decode cX12_init 169 = .ok (.return_, 1) := by decide +kernel
theorem dX12_machine_0 : decode cX12_machine 0 = .ok (.aload_n 0, 1) := by decide +kernel
theorem dX12_machine_1 : decode cX12_machine 1 = .ok (.invokevirtual 68, 3) := by decide +kernel
theorem dX12_machine_4 : decode cX12_machine 4 = .ok (.aload_n 0, 1) := by decide +kernel
theorem dX12_machine_5 : decode cX12_machine 5 = .ok (.aload_n 0, 1) := by decide +kernel
theorem dX12_machine_6 : decode cX12_machine 6 = .ok (.getfield 10, 3) := by decide +kernel
theorem dX12_machine_9 : decode cX12_machine 9 = .ok (.iload_n 1, 1) := by decide +kernel
theorem dX12_machine_10 : decode cX12_machine 10 = .ok (.iload_n 2, 1) := by decide +kernel
theorem dX12_machine_11 : decode cX12_machine 11 = .ok (.iload_n 3, 1) := by decide +kernel
theorem dX12_machine_12 : decode cX12_machine 12 = .ok (.invokevirtual 71, 3) := by decide +kernel
theorem dX12_machine_15 : decode cX12_machine 15 = .ok (.invokevirtual 75, 3) := by decide +kernel
theorem dX12_machine_18 : decode cX12_machine 18 = .ok (.ireturn, 1) := by decide +kernel
theorem dX12_worked_0 : decode cX12_worked 0 = .ok (.aload_n 0, 1) := by decide +kernel
theorem dX12_worked_1 : decode cX12_worked 1 = .ok (.getfield 10, 3) := by decide +kernel
theorem dX12_worked_4 : decode cX12_worked 4 = .ok (.iload_n 1, 1) := by decide +kernel
theorem dX12_worked_5 : decode cX12_worked 5 = .ok (.invokevirtual 79, 3) := by decide +kernel
theorem dX12_worked_8 : decode cX12_worked 8 = .ok (.astore_n 2, 1) := by decide +kernel
theorem dX12_worked_9 : decode cX12_worked 9 = .ok (.aload_n 2, 1) := by decide +kernel
theorem dX12_worked_10 : decode cX12_worked 10 = .ok (.ifnonnull 11, 3) := by decide +kernel
theorem dX12_worked_13 : decode cX12_worked 13 = .ok (.new 83, 3) := by decide +kernel
theorem dX12_worked_16 : decode cX12_worked 16 = .ok (.dup, 1) := by decide +kernel
theorem dX12_worked_17 : decode cX12_worked 17 = .ok (.invokespecial 85, 3) := by decide +kernel
theorem dX12_worked_20 : decode cX12_worked 20 = .ok (.athrow, 1) := by decide +kernel
theorem dX12_worked_21 : decode cX12_worked 21 = .ok (.aload_n 2, 1) := by decide +kernel
theorem dX12_worked_22 : decode cX12_worked 22 = .ok (.getfield 86, 3) := by decide +kernel
theorem dX12_worked_25 : decode cX12_worked 25 = .ok (.ireturn, 1) := by decide +kernel
theorem dX12_product_0 : decode cX12_product 0 = .ok (.aload_n 0, 1) := by decide +kernel
theorem dX12_product_1 : decode cX12_product 1 = .ok (.invokevirtual 68, 3) := by decide +kernel
theorem dX12_product_4 : decode cX12_product 4 = .ok (.aload_n 0, 1) := by decide +kernel
theorem dX12_product_5 : decode cX12_product 5 = .ok (.aload_n 0, 1) := by decide +kernel
theorem dX12_product_6 : decode cX12_product 6 = .ok (.getfield 10, 3) := by decide +kernel
theorem dX12_product_9 : decode cX12_product 9 = .ok (.iload_n 1, 1) := by decide +kernel
theorem dX12_product_10 : decode cX12_product 10 = .ok (.iload_n 2, 1) := by decide +kernel
theorem dX12_product_11 : decode cX12_product 11 = .ok (.iload_n 3, 1) := by decide +kernel
theorem dX12_product_12 : decode cX12_product 12 = .ok (.iload 4, 2) := by decide +kernel
theorem dX12_product_14 : decode cX12_product 14 = .ok (.invokevirtual 92, 3) := by decide +kernel
theorem dX12_product_17 : decode cX12_product 17 = .ok (.invokevirtual 75, 3) := by decide +kernel
theorem dX12_product_20 : decode cX12_product 20 = .ok (.ireturn, 1) := by decide +kernel
theorem dX12_policy_0 : decode cX12_policy 0 = .ok (.aload_n 0, 1) := by decide +kernel
theorem dX12_policy_1 : decode cX12_policy 1 = .ok (.iload_n 1, 1) := by decide +kernel
theorem dX12_policy_2 : decode cX12_policy 2 = .ok (.invokevirtual 96, 3) := by decide +kernel
theorem dX12_policy_5 : decode cX12_policy 5 = .ok (.astore_n 3, 1) := by decide +kernel
theorem dX12_policy_6 : decode cX12_policy 6 = .ok (.iload_n 2, 1) := by decide +kernel
theorem dX12_policy_7 : decode cX12_policy 7 = .ok (.ifCond .lt 9, 3) := by decide +kernel
theorem dX12_policy_10 : decode cX12_policy 10 = .ok (.iload_n 2, 1) := by decide +kernel
theorem dX12_policy_11 : decode cX12_policy 11 = .ok (.bipush 6, 2) := by decide +kernel
theorem dX12_policy_13 : decode cX12_policy 13 = .ok (.if_icmp .le 11, 3) := by decide +kernel
theorem dX12_policy_16 : decode cX12_policy 16 = .ok (.new 100, 3) := by decide +kernel
theorem dX12_policy_19 : decode cX12_policy 19 = .ok (.dup, 1) := by decide +kernel
theorem dX12_policy_20 : decode cX12_policy 20 = .ok (.invokespecial 102, 3) := by decide +kernel
theorem dX12_policy_23 : decode cX12_policy 23 = .ok (.athrow, 1) := by decide +kernel
theorem dX12_policy_24 : decode cX12_policy 24 = .ok (.aload_n 3, 1) := by decide +kernel
theorem dX12_policy_25 : decode cX12_policy 25 = .ok (.iload_n 2, 1) := by decide +kernel
theorem dX12_policy_26 : decode cX12_policy 26 = .ok (.invokevirtual 103, 3) := by decide +kernel
theorem dX12_policy_29 : decode cX12_policy 29 = .ok (.ireturn, 1) := by decide +kernel
theorem dX12_table_0 : decode cX12_table 0 = .ok (.aload_n 0, 1) := by decide +kernel
theorem dX12_table_1 : decode cX12_table 1 = .ok (.iload_n 1, 1) := by decide +kernel
theorem dX12_table_2 : decode cX12_table 2 = .ok (.invokevirtual 96, 3) := by decide +kernel
theorem dX12_table_5 : decode cX12_table 5 = .ok (.astore 5, 2) := by decide +kernel
theorem dX12_table_7 : decode cX12_table 7 = .ok (.iload_n 2, 1) := by decide +kernel
theorem dX12_table_8 : decode cX12_table 8 = .ok (.iconst 1, 1) := by decide +kernel
theorem dX12_table_9 : decode cX12_table 9 = .ok (.if_icmp .lt 19, 3) := by decide +kernel
theorem dX12_table_12 : decode cX12_table 12 = .ok (.iload_n 2, 1) := by decide +kernel
theorem dX12_table_13 : decode cX12_table 13 = .ok (.sipush 200, 3) := by decide +kernel
theorem dX12_table_16 : decode cX12_table 16 = .ok (.if_icmp .gt 12, 3) := by decide +kernel
theorem dX12_table_19 : decode cX12_table 19 = .ok (.iload_n 3, 1) := by decide +kernel
theorem dX12_table_20 : decode cX12_table 20 = .ok (.ifCond .lt 8, 3) := by decide +kernel
theorem dX12_table_23 : decode cX12_table 23 = .ok (.iload_n 3, 1) := by decide +kernel
theorem dX12_table_24 : decode cX12_table 24 = .ok (.iconst 2, 1) := by decide +kernel
theorem dX12_table_25 : decode cX12_table 25 = .ok (.if_icmp .le 11, 3) := by decide +kernel
theorem dX12_table_28 : decode cX12_table 28 = .ok (.new 100, 3) := by decide +kernel
theorem dX12_table_31 : decode cX12_table 31 = .ok (.dup, 1) := by decide +kernel
theorem dX12_table_32 : decode cX12_table 32 = .ok (.invokespecial 102, 3) := by decide +kernel
theorem dX12_table_35 : decode cX12_table 35 = .ok (.athrow, 1) := by decide +kernel
theorem dX12_table_36 : decode cX12_table 36 = .ok (.iload_n 2, 1) := by decide +kernel
theorem dX12_table_37 : decode cX12_table 37 = .ok (.iload_n 3, 1) := by decide +kernel
theorem dX12_table_38 : decode cX12_table 38 = .ok (.invokestatic 106, 3) := by decide +kernel
theorem dX12_table_41 : decode cX12_table 41 = .ok (.istore 6, 2) := by decide +kernel
theorem dX12_table_43 : decode cX12_table 43 = .ok (.iload 4, 2) := by decide +kernel
theorem dX12_table_45 : decode cX12_table 45 = .ok (.ifCond .eq 8, 3) := by decide +kernel
theorem dX12_table_48 : decode cX12_table 48 = .ok (.iload 6, 2) := by decide +kernel
theorem dX12_table_50 : decode cX12_table 50 = .ok (.goto 11, 3) := by decide +kernel
theorem dX12_table_53 : decode cX12_table 53 = .ok (.aload 5, 2) := by decide +kernel
theorem dX12_table_55 : decode cX12_table 55 = .ok (.iload 6, 2) := by decide +kernel
theorem dX12_table_57 : decode cX12_table 57 = .ok (.iload_n 3, 1) := by decide +kernel
theorem dX12_table_58 : decode cX12_table 58 = .ok (.invokevirtual 110, 3) := by decide +kernel
theorem dX12_table_61 : decode cX12_table 61 = .ok (.ireturn, 1) := by decide +kernel
theorem dX12_afterwards_0 : decode cX12_afterwards 0 = .ok (.aload_n 0, 1) := by decide +kernel
theorem dX12_afterwards_1 : decode cX12_afterwards 1 = .ok (.iload_n 1, 1) := by decide +kernel
theorem dX12_afterwards_2 : decode cX12_afterwards 2 = .ok (.invokevirtual 96, 3) := by decide +kernel
theorem dX12_afterwards_5 : decode cX12_afterwards 5 = .ok (.astore 4, 2) := by decide +kernel
theorem dX12_afterwards_7 : decode cX12_afterwards 7 = .ok (.iload_n 2, 1) := by decide +kernel
theorem dX12_afterwards_8 : decode cX12_afterwards 8 = .ok (.ifCond .lt 21, 3) := by decide +kernel
theorem dX12_afterwards_11 : decode cX12_afterwards 11 = .ok (.iload_n 2, 1) := by decide +kernel
theorem dX12_afterwards_12 : decode cX12_afterwards 12 = .ok (.sipush 200, 3) := by decide +kernel
theorem dX12_afterwards_15 : decode cX12_afterwards 15 = .ok (.if_icmp .gt 14, 3) := by decide +kernel
theorem dX12_afterwards_18 : decode cX12_afterwards 18 = .ok (.iload_n 3, 1) := by decide +kernel
theorem dX12_afterwards_19 : decode cX12_afterwards 19 = .ok (.ifCond .lt 10, 3) := by decide +kernel
theorem dX12_afterwards_22 : decode cX12_afterwards 22 = .ok (.iload_n 3, 1) := by decide +kernel
theorem dX12_afterwards_23 : decode cX12_afterwards 23 = .ok (.sipush 200, 3) := by decide +kernel
theorem dX12_afterwards_26 : decode cX12_afterwards 26 = .ok (.if_icmp .le 11, 3) := by decide +kernel
theorem dX12_afterwards_29 : decode cX12_afterwards 29 = .ok (.new 100, 3) := by decide +kernel
theorem dX12_afterwards_32 : decode cX12_afterwards 32 = .ok (.dup, 1) := by decide +kernel
theorem dX12_afterwards_33 : decode cX12_afterwards 33 = .ok (.invokespecial 102, 3) := by decide +kernel
theorem dX12_afterwards_36 : decode cX12_afterwards 36 = .ok (.athrow, 1) := by decide +kernel
theorem dX12_afterwards_37 : decode cX12_afterwards 37 = .ok (.aload 4, 2) := by decide +kernel
theorem dX12_afterwards_39 : decode cX12_afterwards 39 = .ok (.getfield 113, 3) := by decide +kernel
theorem dX12_afterwards_42 : decode cX12_afterwards 42 = .ok (.iconst 3, 1) := by decide +kernel
theorem dX12_afterwards_43 : decode cX12_afterwards 43 = .ok (.if_icmp .ne 11, 3) := by decide +kernel
theorem dX12_afterwards_46 : decode cX12_afterwards 46 = .ok (.new 116, 3) := by decide +kernel
theorem dX12_afterwards_49 : decode cX12_afterwards 49 = .ok (.dup, 1) := by decide +kernel
theorem dX12_afterwards_50 : decode cX12_afterwards 50 = .ok (.invokespecial 118, 3) := by decide +kernel
theorem dX12_afterwards_53 : decode cX12_afterwards 53 = .ok (.athrow, 1) := by decide +kernel
theorem dX12_afterwards_54 : decode cX12_afterwards 54 = .ok (.aload_n 0, 1) := by decide +kernel
theorem dX12_afterwards_55 : decode cX12_afterwards 55 = .ok (.getfield 63, 3) := by decide +kernel
theorem dX12_afterwards_58 : decode cX12_afterwards 58 = .ok (.aload 4, 2) := by decide +kernel
theorem dX12_afterwards_60 : decode cX12_afterwards 60 = .ok (.invokevirtual 119, 3) := by decide +kernel
theorem dX12_afterwards_63 : decode cX12_afterwards 63 = .ok (.aload_n 0, 1) := by decide +kernel
theorem dX12_afterwards_64 : decode cX12_afterwards 64 = .ok (.getfield 63, 3) := by decide +kernel
theorem dX12_afterwards_67 : decode cX12_afterwards 67 = .ok (.iload_n 2, 1) := by decide +kernel
theorem dX12_afterwards_68 : decode cX12_afterwards 68 = .ok (.iload_n 3, 1) := by decide +kernel
theorem dX12_afterwards_69 : decode cX12_afterwards 69 = .ok (.invokevirtual 123, 3) := by decide +kernel
theorem dX12_afterwards_72 : decode cX12_afterwards 72 = .ok (.aload_n 0, 1) := by decide +kernel
theorem dX12_afterwards_73 : decode cX12_afterwards 73 = .ok (.getfield 63, 3) := by decide +kernel
theorem dX12_afterwards_76 : decode cX12_afterwards 76 = .ok (.getfield 113, 3) := by decide +kernel
theorem dX12_afterwards_79 : decode cX12_afterwards 79 = .ok (.ireturn, 1) := by decide +kernel
theorem dX12_release_0 : decode cX12_release 0 = .ok (.aload_n 0, 1) := by decide +kernel
theorem dX12_release_1 : decode cX12_release 1 = .ok (.invokevirtual 68, 3) := by decide +kernel
theorem dX12_release_4 : decode cX12_release 4 = .ok (.aload_n 0, 1) := by decide +kernel
theorem dX12_release_5 : decode cX12_release 5 = .ok (.aload_n 0, 1) := by decide +kernel
theorem dX12_release_6 : decode cX12_release 6 = .ok (.getfield 10, 3) := by decide +kernel
theorem dX12_release_9 : decode cX12_release 9 = .ok (.iload_n 1, 1) := by decide +kernel
theorem dX12_release_10 : decode cX12_release 10 = .ok (.invokevirtual 127, 3) := by decide +kernel
theorem dX12_release_13 : decode cX12_release 13 = .ok (.invokevirtual 75, 3) := by decide +kernel
theorem dX12_release_16 : decode cX12_release 16 = .ok (.ireturn, 1) := by decide +kernel
theorem dX12_seed_0 : decode cX12_seed 0 = .ok (.aload_n 0, 1) := by decide +kernel
theorem dX12_seed_1 : decode cX12_seed 1 = .ok (.invokevirtual 68, 3) := by decide +kernel
theorem dX12_seed_4 : decode cX12_seed 4 = .ok (.aload_n 0, 1) := by decide +kernel
theorem dX12_seed_5 : decode cX12_seed 5 = .ok (.aload_n 0, 1) := by decide +kernel
theorem dX12_seed_6 : decode cX12_seed 6 = .ok (.getfield 10, 3) := by decide +kernel
theorem dX12_seed_9 : decode cX12_seed 9 = .ok (.iload_n 1, 1) := by decide +kernel
theorem dX12_seed_10 : decode cX12_seed 10 = .ok (.invokevirtual 130, 3) := by decide +kernel
theorem dX12_seed_13 : decode cX12_seed 13 = .ok (.invokevirtual 75, 3) := by decide +kernel
theorem dX12_seed_16 : decode cX12_seed 16 = .ok (.ireturn, 1) := by decide +kernel
theorem dX12_raw_0 : decode cX12_raw 0 = .ok (.aload_n 0, 1) := by decide +kernel
theorem dX12_raw_1 : decode cX12_raw 1 = .ok (.invokevirtual 68, 3) := by decide +kernel
theorem dX12_raw_4 : decode cX12_raw 4 = .ok (.aload_n 0, 1) := by decide +kernel
theorem dX12_raw_5 : decode cX12_raw 5 = .ok (.aload_n 0, 1) := by decide +kernel
theorem dX12_raw_6 : decode cX12_raw 6 = .ok (.getfield 10, 3) := by decide +kernel
theorem dX12_raw_9 : decode cX12_raw 9 = .ok (.iload_n 1, 1) := by decide +kernel
theorem dX12_raw_10 : decode cX12_raw 10 = .ok (.iload_n 2, 1) := by decide +kernel
theorem dX12_raw_11 : decode cX12_raw 11 = .ok (.iload_n 3, 1) := by decide +kernel
theorem dX12_raw_12 : decode cX12_raw 12 = .ok (.invokevirtual 133, 3) := by decide +kernel
theorem dX12_raw_15 : decode cX12_raw 15 = .ok (.invokevirtual 75, 3) := by decide +kernel
theorem dX12_raw_18 : decode cX12_raw 18 = .ok (.ireturn, 1) := by decide +kernel
theorem dX12_make_0 : decode cX12_make 0 = .ok (.aload_n 0, 1) := by decide +kernel
theorem dX12_make_1 : decode cX12_make 1 = .ok (.invokevirtual 68, 3) := by decide +kernel
theorem dX12_make_4 : decode cX12_make 4 = .ok (.aload_n 0, 1) := by decide +kernel
theorem dX12_make_5 : decode cX12_make 5 = .ok (.aload_n 0, 1) := by decide +kernel
theorem dX12_make_6 : decode cX12_make 6 = .ok (.getfield 10, 3) := by decide +kernel
theorem dX12_make_9 : decode cX12_make 9 = .ok (.iload_n 1, 1) := by decide +kernel
theorem dX12_make_10 : decode cX12_make 10 = .ok (.iload_n 2, 1) := by decide +kernel
theorem dX12_make_11 : decode cX12_make 11 = .ok (.iload_n 3, 1) := by decide +kernel
theorem dX12_make_12 : decode cX12_make 12 = .ok (.iload 4, 2) := by decide +kernel
theorem dX12_make_14 : decode cX12_make 14 = .ok (.iload 5, 2) := by decide +kernel
theorem dX12_make_16 : decode cX12_make 16 = .ok (.iload 6, 2) := by decide +kernel
theorem dX12_make_18 : decode cX12_make 18 = .ok (.invokevirtual 136, 3) := by decide +kernel
theorem dX12_make_21 : decode cX12_make 21 = .ok (.invokevirtual 75, 3) := by decide +kernel
theorem dX12_make_24 : decode cX12_make 24 = .ok (.ireturn, 1) := by decide +kernel
theorem dX12_inspect_0 : decode cX12_inspect 0 = .ok (.aload_n 0, 1) := by decide +kernel
theorem dX12_inspect_1 : decode cX12_inspect 1 = .ok (.invokevirtual 68, 3) := by decide +kernel
theorem dX12_inspect_4 : decode cX12_inspect 4 = .ok (.aload_n 0, 1) := by decide +kernel
theorem dX12_inspect_5 : decode cX12_inspect 5 = .ok (.aload_n 0, 1) := by decide +kernel
theorem dX12_inspect_6 : decode cX12_inspect 6 = .ok (.getfield 10, 3) := by decide +kernel
theorem dX12_inspect_9 : decode cX12_inspect 9 = .ok (.iload_n 1, 1) := by decide +kernel
theorem dX12_inspect_10 : decode cX12_inspect 10 = .ok (.invokevirtual 140, 3) := by decide +kernel
theorem dX12_inspect_13 : decode cX12_inspect 13 = .ok (.invokevirtual 75, 3) := by decide +kernel
theorem dX12_inspect_16 : decode cX12_inspect 16 = .ok (.ireturn, 1) := by decide +kernel
theorem dX12_sort_0 : decode cX12_sort 0 = .ok (.aload_n 0, 1) := by decide +kernel
theorem dX12_sort_1 : decode cX12_sort 1 = .ok (.invokevirtual 68, 3) := by decide +kernel
theorem dX12_sort_4 : decode cX12_sort 4 = .ok (.aload_n 0, 1) := by decide +kernel
theorem dX12_sort_5 : decode cX12_sort 5 = .ok (.aload_n 0, 1) := by decide +kernel
theorem dX12_sort_6 : decode cX12_sort 6 = .ok (.getfield 10, 3) := by decide +kernel
theorem dX12_sort_9 : decode cX12_sort 9 = .ok (.iload_n 1, 1) := by decide +kernel
theorem dX12_sort_10 : decode cX12_sort 10 = .ok (.invokevirtual 143, 3) := by decide +kernel
theorem dX12_sort_13 : decode cX12_sort 13 = .ok (.invokevirtual 75, 3) := by decide +kernel
theorem dX12_sort_16 : decode cX12_sort 16 = .ok (.ireturn, 1) := by decide +kernel
theorem dX12_ship_0 : decode cX12_ship 0 = .ok (.aload_n 0, 1) := by decide +kernel
theorem dX12_ship_1 : decode cX12_ship 1 = .ok (.invokevirtual 68, 3) := by decide +kernel
theorem dX12_ship_4 : decode cX12_ship 4 = .ok (.aload_n 0, 1) := by decide +kernel
theorem dX12_ship_5 : decode cX12_ship 5 = .ok (.aload_n 0, 1) := by decide +kernel
theorem dX12_ship_6 : decode cX12_ship 6 = .ok (.getfield 10, 3) := by decide +kernel
theorem dX12_ship_9 : decode cX12_ship 9 = .ok (.iload_n 1, 1) := by decide +kernel
theorem dX12_ship_10 : decode cX12_ship 10 = .ok (.invokevirtual 146, 3) := by decide +kernel
theorem dX12_ship_13 : decode cX12_ship 13 = .ok (.invokevirtual 75, 3) := by decide +kernel
theorem dX12_ship_16 : decode cX12_ship 16 = .ok (.ireturn, 1) := by decide +kernel
theorem dX12_complain_0 : decode cX12_complain 0 = .ok (.aload_n 0, 1) := by decide +kernel
theorem dX12_complain_1 : decode cX12_complain 1 = .ok (.invokevirtual 68, 3) := by decide +kernel
theorem dX12_complain_4 : decode cX12_complain 4 = .ok (.aload_n 0, 1) := by decide +kernel
theorem dX12_complain_5 : decode cX12_complain 5 = .ok (.aload_n 0, 1) := by decide +kernel
theorem dX12_complain_6 : decode cX12_complain 6 = .ok (.getfield 10, 3) := by decide +kernel
theorem dX12_complain_9 : decode cX12_complain 9 = .ok (.iload_n 1, 1) := by decide +kernel
theorem dX12_complain_10 : decode cX12_complain 10 = .ok (.iload_n 2, 1) := by decide +kernel
theorem dX12_complain_11 : decode cX12_complain 11 = .ok (.invokevirtual 149, 3) := by decide +kernel
theorem dX12_complain_14 : decode cX12_complain 14 = .ok (.invokevirtual 75, 3) := by decide +kernel
theorem dX12_complain_17 : decode cX12_complain 17 = .ok (.ireturn, 1) := by decide +kernel
theorem dX12_lot_0 : decode cX12_lot 0 = .ok (.aload_n 0, 1) := by decide +kernel
theorem dX12_lot_1 : decode cX12_lot 1 = .ok (.iload_n 1, 1) := by decide +kernel
theorem dX12_lot_2 : decode cX12_lot 2 = .ok (.invokevirtual 152, 3) := by decide +kernel
theorem dX12_lot_5 : decode cX12_lot 5 = .ok (.astore_n 3, 1) := by decide +kernel
theorem dX12_lot_6 : decode cX12_lot 6 = .ok (.iload_n 2, 1) := by decide +kernel
theorem dX12_lot_7 : decode cX12_lot 7 = .ok (.ifCond .lt 9, 3) := by decide +kernel
theorem dX12_lot_10 : decode cX12_lot 10 = .ok (.iload_n 2, 1) := by decide +kernel
theorem dX12_lot_11 : decode cX12_lot 11 = .ok (.bipush 9, 2) := by decide +kernel
theorem dX12_lot_13 : decode cX12_lot 13 = .ok (.if_icmp .le 11, 3) := by decide +kernel
theorem dX12_lot_16 : decode cX12_lot 16 = .ok (.new 100, 3) := by decide +kernel
theorem dX12_lot_19 : decode cX12_lot 19 = .ok (.dup, 1) := by decide +kernel
theorem dX12_lot_20 : decode cX12_lot 20 = .ok (.invokespecial 102, 3) := by decide +kernel
theorem dX12_lot_23 : decode cX12_lot 23 = .ok (.athrow, 1) := by decide +kernel
theorem dX12_lot_24 : decode cX12_lot 24 = .ok (.aload_n 3, 1) := by decide +kernel
theorem dX12_lot_25 : decode cX12_lot 25 = .ok (.iload_n 2, 1) := by decide +kernel
theorem dX12_lot_26 : decode cX12_lot 26 = .ok (.invokevirtual 156, 3) := by decide +kernel
theorem dX12_lot_29 : decode cX12_lot 29 = .ok (.ireturn, 1) := by decide +kernel
theorem dX12_units_0 : decode cX12_units 0 = .ok (.aload_n 0, 1) := by decide +kernel
theorem dX12_units_1 : decode cX12_units 1 = .ok (.iload_n 1, 1) := by decide +kernel
theorem dX12_units_2 : decode cX12_units 2 = .ok (.invokevirtual 152, 3) := by decide +kernel
theorem dX12_units_5 : decode cX12_units 5 = .ok (.astore_n 3, 1) := by decide +kernel
theorem dX12_units_6 : decode cX12_units 6 = .ok (.iload_n 2, 1) := by decide +kernel
theorem dX12_units_7 : decode cX12_units 7 = .ok (.iconst (-1), 1) := by decide +kernel
theorem dX12_units_8 : decode cX12_units 8 = .ok (.if_icmp .lt 8, 3) := by decide +kernel
theorem dX12_units_11 : decode cX12_units 11 = .ok (.iload_n 2, 1) := by decide +kernel
theorem dX12_units_12 : decode cX12_units 12 = .ok (.iconst 4, 1) := by decide +kernel
theorem dX12_units_13 : decode cX12_units 13 = .ok (.if_icmp .le 11, 3) := by decide +kernel
theorem dX12_units_16 : decode cX12_units 16 = .ok (.new 100, 3) := by decide +kernel
theorem dX12_units_19 : decode cX12_units 19 = .ok (.dup, 1) := by decide +kernel
theorem dX12_units_20 : decode cX12_units 20 = .ok (.invokespecial 102, 3) := by decide +kernel
theorem dX12_units_23 : decode cX12_units 23 = .ok (.athrow, 1) := by decide +kernel
theorem dX12_units_24 : decode cX12_units 24 = .ok (.iload_n 2, 1) := by decide +kernel
theorem dX12_units_25 : decode cX12_units 25 = .ok (.iconst (-1), 1) := by decide +kernel
theorem dX12_units_26 : decode cX12_units 26 = .ok (.if_icmp .ne 19, 3) := by decide +kernel
theorem dX12_units_29 : decode cX12_units 29 = .ok (.aload_n 3, 1) := by decide +kernel
theorem dX12_units_30 : decode cX12_units 30 = .ok (.iconst 0, 1) := by decide +kernel
theorem dX12_units_31 : decode cX12_units 31 = .ok (.aload_n 0, 1) := by decide +kernel
theorem dX12_units_32 : decode cX12_units 32 = .ok (.getfield 10, 3) := by decide +kernel
theorem dX12_units_35 : decode cX12_units 35 = .ok (.aload_n 3, 1) := by decide +kernel
theorem dX12_units_36 : decode cX12_units 36 = .ok (.invokevirtual 159, 3) := by decide +kernel
theorem dX12_units_39 : decode cX12_units 39 = .ok (.invokevirtual 163, 3) := by decide +kernel
theorem dX12_units_42 : decode cX12_units 42 = .ok (.goto 8, 3) := by decide +kernel
theorem dX12_units_45 : decode cX12_units 45 = .ok (.aload_n 3, 1) := by decide +kernel
theorem dX12_units_46 : decode cX12_units 46 = .ok (.iload_n 2, 1) := by decide +kernel
theorem dX12_units_47 : decode cX12_units 47 = .ok (.invokevirtual 166, 3) := by decide +kernel
theorem dX12_units_50 : decode cX12_units 50 = .ok (.ireturn, 1) := by decide +kernel
theorem dX12_unit_0 : decode cX12_unit 0 = .ok (.aload_n 0, 1) := by decide +kernel
theorem dX12_unit_1 : decode cX12_unit 1 = .ok (.iload_n 1, 1) := by decide +kernel
theorem dX12_unit_2 : decode cX12_unit 2 = .ok (.iload_n 2, 1) := by decide +kernel
theorem dX12_unit_3 : decode cX12_unit 3 = .ok (.invokevirtual 169, 3) := by decide +kernel
theorem dX12_unit_6 : decode cX12_unit 6 = .ok (.astore 4, 2) := by decide +kernel
theorem dX12_unit_8 : decode cX12_unit 8 = .ok (.iload_n 3, 1) := by decide +kernel
theorem dX12_unit_9 : decode cX12_unit 9 = .ok (.tableswitch 79 0 3 #[31, 39, 47, 55], 31) := by decide +kernel
theorem dX12_unit_40 : decode cX12_unit 40 = .ok (.aload 4, 2) := by decide +kernel
theorem dX12_unit_42 : decode cX12_unit 42 = .ok (.getfield 173, 3) := by decide +kernel
theorem dX12_unit_45 : decode cX12_unit 45 = .ok (.iload_n 2, 1) := by decide +kernel
theorem dX12_unit_46 : decode cX12_unit 46 = .ok (.iaload, 1) := by decide +kernel
theorem dX12_unit_47 : decode cX12_unit 47 = .ok (.ireturn, 1) := by decide +kernel
theorem dX12_unit_48 : decode cX12_unit 48 = .ok (.aload 4, 2) := by decide +kernel
theorem dX12_unit_50 : decode cX12_unit 50 = .ok (.getfield 177, 3) := by decide +kernel
theorem dX12_unit_53 : decode cX12_unit 53 = .ok (.iload_n 2, 1) := by decide +kernel
theorem dX12_unit_54 : decode cX12_unit 54 = .ok (.iaload, 1) := by decide +kernel
theorem dX12_unit_55 : decode cX12_unit 55 = .ok (.ireturn, 1) := by decide +kernel
theorem dX12_unit_56 : decode cX12_unit 56 = .ok (.aload 4, 2) := by decide +kernel
theorem dX12_unit_58 : decode cX12_unit 58 = .ok (.getfield 180, 3) := by decide +kernel
theorem dX12_unit_61 : decode cX12_unit 61 = .ok (.iload_n 2, 1) := by decide +kernel
theorem dX12_unit_62 : decode cX12_unit 62 = .ok (.iaload, 1) := by decide +kernel
theorem dX12_unit_63 : decode cX12_unit 63 = .ok (.ireturn, 1) := by decide +kernel
theorem dX12_unit_64 : decode cX12_unit 64 = .ok (.aload 4, 2) := by decide +kernel
theorem dX12_unit_66 : decode cX12_unit 66 = .ok (.iload_n 2, 1) := by decide +kernel
theorem dX12_unit_67 : decode cX12_unit 67 = .ok (.aload_n 0, 1) := by decide +kernel
theorem dX12_unit_68 : decode cX12_unit 68 = .ok (.getfield 10, 3) := by decide +kernel
theorem dX12_unit_71 : decode cX12_unit 71 = .ok (.aload 4, 2) := by decide +kernel
theorem dX12_unit_73 : decode cX12_unit 73 = .ok (.invokevirtual 159, 3) := by decide +kernel
theorem dX12_unit_76 : decode cX12_unit 76 = .ok (.invokevirtual 183, 3) := by decide +kernel
theorem dX12_unit_79 : decode cX12_unit 79 = .ok (.ifCond .eq 7, 3) := by decide +kernel
theorem dX12_unit_82 : decode cX12_unit 82 = .ok (.iconst 1, 1) := by decide +kernel
theorem dX12_unit_83 : decode cX12_unit 83 = .ok (.goto 4, 3) := by decide +kernel
theorem dX12_unit_86 : decode cX12_unit 86 = .ok (.iconst 0, 1) := by decide +kernel
theorem dX12_unit_87 : decode cX12_unit 87 = .ok (.ireturn, 1) := by decide +kernel
theorem dX12_unit_88 : decode cX12_unit 88 = .ok (.new 100, 3) := by decide +kernel
theorem dX12_unit_91 : decode cX12_unit 91 = .ok (.dup, 1) := by decide +kernel
theorem dX12_unit_92 : decode cX12_unit 92 = .ok (.invokespecial 102, 3) := by decide +kernel
theorem dX12_unit_95 : decode cX12_unit 95 = .ok (.athrow, 1) := by decide +kernel
theorem dX12_chance_0 : decode cX12_chance 0 = .ok (.aload_n 0, 1) := by decide +kernel
theorem dX12_chance_1 : decode cX12_chance 1 = .ok (.iload_n 1, 1) := by decide +kernel
theorem dX12_chance_2 : decode cX12_chance 2 = .ok (.invokevirtual 152, 3) := by decide +kernel
theorem dX12_chance_5 : decode cX12_chance 5 = .ok (.astore_n 3, 1) := by decide +kernel
theorem dX12_chance_6 : decode cX12_chance 6 = .ok (.iload_n 2, 1) := by decide +kernel
theorem dX12_chance_7 : decode cX12_chance 7 = .ok (.ifCond .lt 8, 3) := by decide +kernel
theorem dX12_chance_10 : decode cX12_chance 10 = .ok (.iload_n 2, 1) := by decide +kernel
theorem dX12_chance_11 : decode cX12_chance 11 = .ok (.iconst 2, 1) := by decide +kernel
theorem dX12_chance_12 : decode cX12_chance 12 = .ok (.if_icmp .le 11, 3) := by decide +kernel
theorem dX12_chance_15 : decode cX12_chance 15 = .ok (.new 100, 3) := by decide +kernel
theorem dX12_chance_18 : decode cX12_chance 18 = .ok (.dup, 1) := by decide +kernel
theorem dX12_chance_19 : decode cX12_chance 19 = .ok (.invokespecial 102, 3) := by decide +kernel
theorem dX12_chance_22 : decode cX12_chance 22 = .ok (.athrow, 1) := by decide +kernel
theorem dX12_chance_23 : decode cX12_chance 23 = .ok (.aload_n 3, 1) := by decide +kernel
theorem dX12_chance_24 : decode cX12_chance 24 = .ok (.iconst 0, 1) := by decide +kernel
theorem dX12_chance_25 : decode cX12_chance 25 = .ok (.invokevirtual 166, 3) := by decide +kernel
theorem dX12_chance_28 : decode cX12_chance 28 = .ok (.istore 4, 2) := by decide +kernel
theorem dX12_chance_30 : decode cX12_chance 30 = .ok (.aload_n 0, 1) := by decide +kernel
theorem dX12_chance_31 : decode cX12_chance 31 = .ok (.getfield 10, 3) := by decide +kernel
theorem dX12_chance_34 : decode cX12_chance 34 = .ok (.aload_n 3, 1) := by decide +kernel
theorem dX12_chance_35 : decode cX12_chance 35 = .ok (.getfield 187, 3) := by decide +kernel
theorem dX12_chance_38 : decode cX12_chance 38 = .ok (.invokevirtual 190, 3) := by decide +kernel
theorem dX12_chance_41 : decode cX12_chance 41 = .ok (.astore 5, 2) := by decide +kernel
theorem dX12_chance_43 : decode cX12_chance 43 = .ok (.iload 4, 2) := by decide +kernel
theorem dX12_chance_45 : decode cX12_chance 45 = .ok (.ifCond .eq 8, 3) := by decide +kernel
theorem dX12_chance_48 : decode cX12_chance 48 = .ok (.aload 5, 2) := by decide +kernel
theorem dX12_chance_50 : decode cX12_chance 50 = .ok (.ifnonnull 11, 3) := by decide +kernel
theorem dX12_chance_53 : decode cX12_chance 53 = .ok (.new 116, 3) := by decide +kernel
theorem dX12_chance_56 : decode cX12_chance 56 = .ok (.dup, 1) := by decide +kernel
theorem dX12_chance_57 : decode cX12_chance 57 = .ok (.invokespecial 118, 3) := by decide +kernel
theorem dX12_chance_60 : decode cX12_chance 60 = .ok (.athrow, 1) := by decide +kernel
theorem dX12_chance_61 : decode cX12_chance 61 = .ok (.iload 4, 2) := by decide +kernel
theorem dX12_chance_63 : decode cX12_chance 63 = .ok (.iload_n 2, 1) := by decide +kernel
theorem dX12_chance_64 : decode cX12_chance 64 = .ok (.invokestatic 106, 3) := by decide +kernel
theorem dX12_chance_67 : decode cX12_chance 67 = .ok (.istore 6, 2) := by decide +kernel
theorem dX12_chance_69 : decode cX12_chance 69 = .ok (.aload_n 3, 1) := by decide +kernel
theorem dX12_chance_70 : decode cX12_chance 70 = .ok (.iconst 0, 1) := by decide +kernel
theorem dX12_chance_71 : decode cX12_chance 71 = .ok (.aload 5, 2) := by decide +kernel
theorem dX12_chance_73 : decode cX12_chance 73 = .ok (.getfield 193, 3) := by decide +kernel
theorem dX12_chance_76 : decode cX12_chance 76 = .ok (.invokevirtual 163, 3) := by decide +kernel
theorem dX12_chance_79 : decode cX12_chance 79 = .ok (.istore 7, 2) := by decide +kernel
theorem dX12_chance_81 : decode cX12_chance 81 = .ok (.aload_n 0, 1) := by decide +kernel
theorem dX12_chance_82 : decode cX12_chance 82 = .ok (.getfield 56, 3) := by decide +kernel
theorem dX12_chance_85 : decode cX12_chance 85 = .ok (.iload 4, 2) := by decide +kernel
theorem dX12_chance_87 : decode cX12_chance 87 = .ok (.iload 7, 2) := by decide +kernel
theorem dX12_chance_89 : decode cX12_chance 89 = .ok (.iload 6, 2) := by decide +kernel
theorem dX12_chance_91 : decode cX12_chance 91 = .ok (.aload 5, 2) := by decide +kernel
theorem dX12_chance_93 : decode cX12_chance 93 = .ok (.iload 6, 2) := by decide +kernel
theorem dX12_chance_95 : decode cX12_chance 95 = .ok (.iload_n 2, 1) := by decide +kernel
theorem dX12_chance_96 : decode cX12_chance 96 = .ok (.invokevirtual 110, 3) := by decide +kernel
theorem dX12_chance_99 : decode cX12_chance 99 = .ok (.invokevirtual 196, 3) := by decide +kernel
theorem dX12_chance_102 : decode cX12_chance 102 = .ok (.invokestatic 200, 3) := by decide +kernel
theorem dX12_chance_105 : decode cX12_chance 105 = .ok (.lreturn, 1) := by decide +kernel
theorem dX12_madeOf_0 : decode cX12_madeOf 0 = .ok (.aload_n 0, 1) := by decide +kernel
theorem dX12_madeOf_1 : decode cX12_madeOf 1 = .ok (.iload_n 1, 1) := by decide +kernel
theorem dX12_madeOf_2 : decode cX12_madeOf 2 = .ok (.iload_n 2, 1) := by decide +kernel
theorem dX12_madeOf_3 : decode cX12_madeOf 3 = .ok (.invokevirtual 169, 3) := by decide +kernel
theorem dX12_madeOf_6 : decode cX12_madeOf 6 = .ok (.astore 4, 2) := by decide +kernel
theorem dX12_madeOf_8 : decode cX12_madeOf 8 = .ok (.iload_n 3, 1) := by decide +kernel
theorem dX12_madeOf_9 : decode cX12_madeOf 9 = .ok (.ifCond .lt 12, 3) := by decide +kernel
theorem dX12_madeOf_12 : decode cX12_madeOf 12 = .ok (.iload_n 3, 1) := by decide +kernel
theorem dX12_madeOf_13 : decode cX12_madeOf 13 = .ok (.aload 4, 2) := by decide +kernel
theorem dX12_madeOf_15 : decode cX12_madeOf 15 = .ok (.getfield 206, 3) := by decide +kernel
theorem dX12_madeOf_18 : decode cX12_madeOf 18 = .ok (.if_icmp .lt 11, 3) := by decide +kernel
theorem dX12_madeOf_21 : decode cX12_madeOf 21 = .ok (.new 209, 3) := by decide +kernel
theorem dX12_madeOf_24 : decode cX12_madeOf 24 = .ok (.dup, 1) := by decide +kernel
theorem dX12_madeOf_25 : decode cX12_madeOf 25 = .ok (.invokespecial 211, 3) := by decide +kernel
theorem dX12_madeOf_28 : decode cX12_madeOf 28 = .ok (.athrow, 1) := by decide +kernel
theorem dX12_madeOf_29 : decode cX12_madeOf 29 = .ok (.aload_n 0, 1) := by decide +kernel
theorem dX12_madeOf_30 : decode cX12_madeOf 30 = .ok (.getfield 10, 3) := by decide +kernel
theorem dX12_madeOf_33 : decode cX12_madeOf 33 = .ok (.iload_n 1, 1) := by decide +kernel
theorem dX12_madeOf_34 : decode cX12_madeOf 34 = .ok (.iload_n 2, 1) := by decide +kernel
theorem dX12_madeOf_35 : decode cX12_madeOf 35 = .ok (.iload_n 3, 1) := by decide +kernel
theorem dX12_madeOf_36 : decode cX12_madeOf 36 = .ok (.invokevirtual 212, 3) := by decide +kernel
theorem dX12_madeOf_39 : decode cX12_madeOf 39 = .ok (.ireturn, 1) := by decide +kernel
theorem dX12_whereabouts_0 : decode cX12_whereabouts 0 = .ok (.aload_n 0, 1) := by decide +kernel
theorem dX12_whereabouts_1 : decode cX12_whereabouts 1 = .ok (.iload_n 1, 1) := by decide +kernel
theorem dX12_whereabouts_2 : decode cX12_whereabouts 2 = .ok (.iload_n 2, 1) := by decide +kernel
theorem dX12_whereabouts_3 : decode cX12_whereabouts 3 = .ok (.invokevirtual 169, 3) := by decide +kernel
theorem dX12_whereabouts_6 : decode cX12_whereabouts 6 = .ok (.pop, 1) := by decide +kernel
theorem dX12_whereabouts_7 : decode cX12_whereabouts 7 = .ok (.aload_n 0, 1) := by decide +kernel
theorem dX12_whereabouts_8 : decode cX12_whereabouts 8 = .ok (.getfield 10, 3) := by decide +kernel
theorem dX12_whereabouts_11 : decode cX12_whereabouts 11 = .ok (.iload_n 1, 1) := by decide +kernel
theorem dX12_whereabouts_12 : decode cX12_whereabouts 12 = .ok (.iload_n 2, 1) := by decide +kernel
theorem dX12_whereabouts_13 : decode cX12_whereabouts 13 = .ok (.invokestatic 215, 3) := by decide +kernel
theorem dX12_whereabouts_16 : decode cX12_whereabouts 16 = .ok (.invokevirtual 218, 3) := by decide +kernel
theorem dX12_whereabouts_19 : decode cX12_whereabouts 19 = .ok (.ireturn, 1) := by decide +kernel
theorem dX12_trace_0 : decode cX12_trace 0 = .ok (.aload_n 0, 1) := by decide +kernel
theorem dX12_trace_1 : decode cX12_trace 1 = .ok (.iload_n 1, 1) := by decide +kernel
theorem dX12_trace_2 : decode cX12_trace 2 = .ok (.iload_n 2, 1) := by decide +kernel
theorem dX12_trace_3 : decode cX12_trace 3 = .ok (.invokevirtual 169, 3) := by decide +kernel
theorem dX12_trace_6 : decode cX12_trace 6 = .ok (.astore 5, 2) := by decide +kernel
theorem dX12_trace_8 : decode cX12_trace 8 = .ok (.iload_n 3, 1) := by decide +kernel
theorem dX12_trace_9 : decode cX12_trace 9 = .ok (.ifCond .lt 8, 3) := by decide +kernel
theorem dX12_trace_12 : decode cX12_trace 12 = .ok (.iload_n 3, 1) := by decide +kernel
theorem dX12_trace_13 : decode cX12_trace 13 = .ok (.iconst 4, 1) := by decide +kernel
theorem dX12_trace_14 : decode cX12_trace 14 = .ok (.if_icmp .lt 11, 3) := by decide +kernel
theorem dX12_trace_17 : decode cX12_trace 17 = .ok (.new 100, 3) := by decide +kernel
theorem dX12_trace_20 : decode cX12_trace 20 = .ok (.dup, 1) := by decide +kernel
theorem dX12_trace_21 : decode cX12_trace 21 = .ok (.invokespecial 102, 3) := by decide +kernel
theorem dX12_trace_24 : decode cX12_trace 24 = .ok (.athrow, 1) := by decide +kernel
theorem dX12_trace_25 : decode cX12_trace 25 = .ok (.aload 5, 2) := by decide +kernel
theorem dX12_trace_27 : decode cX12_trace 27 = .ok (.getfield 177, 3) := by decide +kernel
theorem dX12_trace_30 : decode cX12_trace 30 = .ok (.iload_n 2, 1) := by decide +kernel
theorem dX12_trace_31 : decode cX12_trace 31 = .ok (.iaload, 1) := by decide +kernel
theorem dX12_trace_32 : decode cX12_trace 32 = .ok (.iconst 1, 1) := by decide +kernel
theorem dX12_trace_33 : decode cX12_trace 33 = .ok (.iload_n 3, 1) := by decide +kernel
theorem dX12_trace_34 : decode cX12_trace 34 = .ok (.ishl, 1) := by decide +kernel
theorem dX12_trace_35 : decode cX12_trace 35 = .ok (.iand, 1) := by decide +kernel
theorem dX12_trace_36 : decode cX12_trace 36 = .ok (.ifCond .ne 11, 3) := by decide +kernel
theorem dX12_trace_39 : decode cX12_trace 39 = .ok (.new 209, 3) := by decide +kernel
theorem dX12_trace_42 : decode cX12_trace 42 = .ok (.dup, 1) := by decide +kernel
theorem dX12_trace_43 : decode cX12_trace 43 = .ok (.invokespecial 211, 3) := by decide +kernel
theorem dX12_trace_46 : decode cX12_trace 46 = .ok (.athrow, 1) := by decide +kernel
theorem dX12_trace_47 : decode cX12_trace 47 = .ok (.aload_n 0, 1) := by decide +kernel
theorem dX12_trace_48 : decode cX12_trace 48 = .ok (.getfield 10, 3) := by decide +kernel
theorem dX12_trace_51 : decode cX12_trace 51 = .ok (.iload_n 1, 1) := by decide +kernel
theorem dX12_trace_52 : decode cX12_trace 52 = .ok (.iload_n 2, 1) := by decide +kernel
theorem dX12_trace_53 : decode cX12_trace 53 = .ok (.invokestatic 215, 3) := by decide +kernel
theorem dX12_trace_56 : decode cX12_trace 56 = .ok (.iload_n 3, 1) := by decide +kernel
theorem dX12_trace_57 : decode cX12_trace 57 = .ok (.invokevirtual 221, 3) := by decide +kernel
theorem dX12_trace_60 : decode cX12_trace 60 = .ok (.istore 6, 2) := by decide +kernel
theorem dX12_trace_62 : decode cX12_trace 62 = .ok (.iload 4, 2) := by decide +kernel
theorem dX12_trace_64 : decode cX12_trace 64 = .ok (.ifCond .eq 16, 3) := by decide +kernel
theorem dX12_trace_67 : decode cX12_trace 67 = .ok (.aload_n 0, 1) := by decide +kernel
theorem dX12_trace_68 : decode cX12_trace 68 = .ok (.getfield 10, 3) := by decide +kernel
theorem dX12_trace_71 : decode cX12_trace 71 = .ok (.iload 6, 2) := by decide +kernel
theorem dX12_trace_73 : decode cX12_trace 73 = .ok (.iload_n 3, 1) := by decide +kernel
theorem dX12_trace_74 : decode cX12_trace 74 = .ok (.invokevirtual 224, 3) := by decide +kernel
theorem dX12_trace_77 : decode cX12_trace 77 = .ok (.goto 5, 3) := by decide +kernel
theorem dX12_trace_80 : decode cX12_trace 80 = .ok (.iload 6, 2) := by decide +kernel
theorem dX12_trace_82 : decode cX12_trace 82 = .ok (.ireturn, 1) := by decide +kernel
theorem dX12_recall_0 : decode cX12_recall 0 = .ok (.aload_n 0, 1) := by decide +kernel
theorem dX12_recall_1 : decode cX12_recall 1 = .ok (.iload_n 1, 1) := by decide +kernel
theorem dX12_recall_2 : decode cX12_recall 2 = .ok (.invokevirtual 152, 3) := by decide +kernel
theorem dX12_recall_5 : decode cX12_recall 5 = .ok (.pop, 1) := by decide +kernel
theorem dX12_recall_6 : decode cX12_recall 6 = .ok (.aload_n 0, 1) := by decide +kernel
theorem dX12_recall_7 : decode cX12_recall 7 = .ok (.getfield 49, 3) := by decide +kernel
theorem dX12_recall_10 : decode cX12_recall 10 = .ok (.aload_n 0, 1) := by decide +kernel
theorem dX12_recall_11 : decode cX12_recall 11 = .ok (.getfield 10, 3) := by decide +kernel
theorem dX12_recall_14 : decode cX12_recall 14 = .ok (.iload_n 1, 1) := by decide +kernel
theorem dX12_recall_15 : decode cX12_recall 15 = .ok (.invokevirtual 227, 3) := by decide +kernel
theorem dX12_recall_18 : decode cX12_recall 18 = .ok (.aload_n 0, 1) := by decide +kernel
theorem dX12_recall_19 : decode cX12_recall 19 = .ok (.getfield 49, 3) := by decide +kernel
theorem dX12_recall_22 : decode cX12_recall 22 = .ok (.getfield 231, 3) := by decide +kernel
theorem dX12_recall_25 : decode cX12_recall 25 = .ok (.ireturn, 1) := by decide +kernel
theorem dX12_recalled_0 : decode cX12_recalled 0 = .ok (.aload_n 0, 1) := by decide +kernel
theorem dX12_recalled_1 : decode cX12_recalled 1 = .ok (.iload_n 1, 1) := by decide +kernel
theorem dX12_recalled_2 : decode cX12_recalled 2 = .ok (.invokevirtual 152, 3) := by decide +kernel
theorem dX12_recalled_5 : decode cX12_recalled 5 = .ok (.pop, 1) := by decide +kernel
theorem dX12_recalled_6 : decode cX12_recalled 6 = .ok (.iload_n 2, 1) := by decide +kernel
theorem dX12_recalled_7 : decode cX12_recalled 7 = .ok (.ifCond .lt 8, 3) := by decide +kernel
theorem dX12_recalled_10 : decode cX12_recalled 10 = .ok (.iload_n 2, 1) := by decide +kernel
theorem dX12_recalled_11 : decode cX12_recalled 11 = .ok (.iconst 4, 1) := by decide +kernel
theorem dX12_recalled_12 : decode cX12_recalled 12 = .ok (.if_icmp .le 11, 3) := by decide +kernel
theorem dX12_recalled_15 : decode cX12_recalled 15 = .ok (.new 100, 3) := by decide +kernel
theorem dX12_recalled_18 : decode cX12_recalled 18 = .ok (.dup, 1) := by decide +kernel
theorem dX12_recalled_19 : decode cX12_recalled 19 = .ok (.invokespecial 102, 3) := by decide +kernel
theorem dX12_recalled_22 : decode cX12_recalled 22 = .ok (.athrow, 1) := by decide +kernel
theorem dX12_recalled_23 : decode cX12_recalled 23 = .ok (.aload_n 0, 1) := by decide +kernel
theorem dX12_recalled_24 : decode cX12_recalled 24 = .ok (.getfield 49, 3) := by decide +kernel
theorem dX12_recalled_27 : decode cX12_recalled 27 = .ok (.aload_n 0, 1) := by decide +kernel
theorem dX12_recalled_28 : decode cX12_recalled 28 = .ok (.getfield 10, 3) := by decide +kernel
theorem dX12_recalled_31 : decode cX12_recalled 31 = .ok (.iload_n 1, 1) := by decide +kernel
theorem dX12_recalled_32 : decode cX12_recalled 32 = .ok (.invokevirtual 227, 3) := by decide +kernel
theorem dX12_recalled_35 : decode cX12_recalled 35 = .ok (.aload_n 0, 1) := by decide +kernel
theorem dX12_recalled_36 : decode cX12_recalled 36 = .ok (.getfield 49, 3) := by decide +kernel
theorem dX12_recalled_39 : decode cX12_recalled 39 = .ok (.aload_n 0, 1) := by decide +kernel
theorem dX12_recalled_40 : decode cX12_recalled 40 = .ok (.getfield 10, 3) := by decide +kernel
theorem dX12_recalled_43 : decode cX12_recalled 43 = .ok (.iload_n 2, 1) := by decide +kernel
theorem dX12_recalled_44 : decode cX12_recalled 44 = .ok (.invokevirtual 234, 3) := by decide +kernel
theorem dX12_recalled_47 : decode cX12_recalled 47 = .ok (.ireturn, 1) := by decide +kernel
theorem dX12_blame_0 : decode cX12_blame 0 = .ok (.iload_n 1, 1) := by decide +kernel
theorem dX12_blame_1 : decode cX12_blame 1 = .ok (.ifCond .lt 19, 3) := by decide +kernel
theorem dX12_blame_4 : decode cX12_blame 4 = .ok (.iload_n 1, 1) := by decide +kernel
theorem dX12_blame_5 : decode cX12_blame 5 = .ok (.bipush 7, 2) := by decide +kernel
theorem dX12_blame_7 : decode cX12_blame 7 = .ok (.if_icmp .ge 13, 3) := by decide +kernel
theorem dX12_blame_10 : decode cX12_blame 10 = .ok (.iload_n 2, 1) := by decide +kernel
theorem dX12_blame_11 : decode cX12_blame 11 = .ok (.iconst (-1), 1) := by decide +kernel
theorem dX12_blame_12 : decode cX12_blame 12 = .ok (.if_icmp .lt 8, 3) := by decide +kernel
theorem dX12_blame_15 : decode cX12_blame 15 = .ok (.iload_n 2, 1) := by decide +kernel
theorem dX12_blame_16 : decode cX12_blame 16 = .ok (.iconst 4, 1) := by decide +kernel
theorem dX12_blame_17 : decode cX12_blame 17 = .ok (.if_icmp .lt 11, 3) := by decide +kernel
theorem dX12_blame_20 : decode cX12_blame 20 = .ok (.new 100, 3) := by decide +kernel
theorem dX12_blame_23 : decode cX12_blame 23 = .ok (.dup, 1) := by decide +kernel
theorem dX12_blame_24 : decode cX12_blame 24 = .ok (.invokespecial 102, 3) := by decide +kernel
theorem dX12_blame_27 : decode cX12_blame 27 = .ok (.athrow, 1) := by decide +kernel
theorem dX12_blame_28 : decode cX12_blame 28 = .ok (.aload_n 0, 1) := by decide +kernel
theorem dX12_blame_29 : decode cX12_blame 29 = .ok (.getfield 10, 3) := by decide +kernel
theorem dX12_blame_32 : decode cX12_blame 32 = .ok (.iload_n 1, 1) := by decide +kernel
theorem dX12_blame_33 : decode cX12_blame 33 = .ok (.iload_n 2, 1) := by decide +kernel
theorem dX12_blame_34 : decode cX12_blame 34 = .ok (.invokevirtual 237, 3) := by decide +kernel
theorem dX12_blame_37 : decode cX12_blame 37 = .ok (.ireturn, 1) := by decide +kernel
theorem dX12_worst_0 : decode cX12_worst 0 = .ok (.aload_n 0, 1) := by decide +kernel
theorem dX12_worst_1 : decode cX12_worst 1 = .ok (.getfield 10, 3) := by decide +kernel
theorem dX12_worst_4 : decode cX12_worst 4 = .ok (.iload_n 1, 1) := by decide +kernel
theorem dX12_worst_5 : decode cX12_worst 5 = .ok (.invokevirtual 240, 3) := by decide +kernel
theorem dX12_worst_8 : decode cX12_worst 8 = .ok (.istore_n 2, 1) := by decide +kernel
theorem dX12_worst_9 : decode cX12_worst 9 = .ok (.iload_n 2, 1) := by decide +kernel
theorem dX12_worst_10 : decode cX12_worst 10 = .ok (.ifCond .ge 11, 3) := by decide +kernel
theorem dX12_worst_13 : decode cX12_worst 13 = .ok (.new 209, 3) := by decide +kernel
theorem dX12_worst_16 : decode cX12_worst 16 = .ok (.dup, 1) := by decide +kernel
theorem dX12_worst_17 : decode cX12_worst 17 = .ok (.invokespecial 211, 3) := by decide +kernel
theorem dX12_worst_20 : decode cX12_worst 20 = .ok (.athrow, 1) := by decide +kernel
theorem dX12_worst_21 : decode cX12_worst 21 = .ok (.iload_n 2, 1) := by decide +kernel
theorem dX12_worst_22 : decode cX12_worst 22 = .ok (.ireturn, 1) := by decide +kernel
theorem dX12_outgoing_0 : decode cX12_outgoing 0 = .ok (.aload_n 0, 1) := by decide +kernel
theorem dX12_outgoing_1 : decode cX12_outgoing 1 = .ok (.iload_n 1, 1) := by decide +kernel
theorem dX12_outgoing_2 : decode cX12_outgoing 2 = .ok (.invokevirtual 96, 3) := by decide +kernel
theorem dX12_outgoing_5 : decode cX12_outgoing 5 = .ok (.astore_n 2, 1) := by decide +kernel
theorem dX12_outgoing_6 : decode cX12_outgoing 6 = .ok (.aload_n 0, 1) := by decide +kernel
theorem dX12_outgoing_7 : decode cX12_outgoing 7 = .ok (.getfield 10, 3) := by decide +kernel
theorem dX12_outgoing_10 : decode cX12_outgoing 10 = .ok (.iload_n 1, 1) := by decide +kernel
theorem dX12_outgoing_11 : decode cX12_outgoing 11 = .ok (.invokevirtual 243, 3) := by decide +kernel
theorem dX12_outgoing_14 : decode cX12_outgoing 14 = .ok (.istore_n 3, 1) := by decide +kernel
theorem dX12_outgoing_15 : decode cX12_outgoing 15 = .ok (.iload_n 3, 1) := by decide +kernel
theorem dX12_outgoing_16 : decode cX12_outgoing 16 = .ok (.ifCond .ne 11, 3) := by decide +kernel
theorem dX12_outgoing_19 : decode cX12_outgoing 19 = .ok (.new 246, 3) := by decide +kernel
theorem dX12_outgoing_22 : decode cX12_outgoing 22 = .ok (.dup, 1) := by decide +kernel
theorem dX12_outgoing_23 : decode cX12_outgoing 23 = .ok (.invokespecial 248, 3) := by decide +kernel
theorem dX12_outgoing_26 : decode cX12_outgoing 26 = .ok (.athrow, 1) := by decide +kernel
theorem dX12_outgoing_27 : decode cX12_outgoing 27 = .ok (.aload_n 0, 1) := by decide +kernel
theorem dX12_outgoing_28 : decode cX12_outgoing 28 = .ok (.getfield 10, 3) := by decide +kernel
theorem dX12_outgoing_31 : decode cX12_outgoing 31 = .ok (.iload_n 1, 1) := by decide +kernel
theorem dX12_outgoing_32 : decode cX12_outgoing 32 = .ok (.aload_n 2, 1) := by decide +kernel
theorem dX12_outgoing_33 : decode cX12_outgoing 33 = .ok (.getfield 193, 3) := by decide +kernel
theorem dX12_outgoing_36 : decode cX12_outgoing 36 = .ok (.invokevirtual 249, 3) := by decide +kernel
theorem dX12_outgoing_39 : decode cX12_outgoing 39 = .ok (.istore 4, 2) := by decide +kernel
theorem dX12_outgoing_41 : decode cX12_outgoing 41 = .ok (.iload 4, 2) := by decide +kernel
theorem dX12_outgoing_43 : decode cX12_outgoing 43 = .ok (.i2f, 1) := by decide +kernel
theorem dX12_outgoing_44 : decode cX12_outgoing 44 = .ok (.iload_n 3, 1) := by decide +kernel
theorem dX12_outgoing_45 : decode cX12_outgoing 45 = .ok (.i2f, 1) := by decide +kernel
theorem dX12_outgoing_46 : decode cX12_outgoing 46 = .ok (.fdiv, 1) := by decide +kernel
theorem dX12_outgoing_47 : decode cX12_outgoing 47 = .ok (.invokestatic 252, 3) := by decide +kernel
theorem dX12_outgoing_50 : decode cX12_outgoing 50 = .ok (.ireturn, 1) := by decide +kernel
theorem dX12_foundShare_0 : decode cX12_foundShare 0 = .ok (.aload_n 0, 1) := by decide +kernel
theorem dX12_foundShare_1 : decode cX12_foundShare 1 = .ok (.iload_n 1, 1) := by decide +kernel
theorem dX12_foundShare_2 : decode cX12_foundShare 2 = .ok (.invokevirtual 96, 3) := by decide +kernel
theorem dX12_foundShare_5 : decode cX12_foundShare 5 = .ok (.astore_n 2, 1) := by decide +kernel
theorem dX12_foundShare_6 : decode cX12_foundShare 6 = .ok (.aload_n 2, 1) := by decide +kernel
theorem dX12_foundShare_7 : decode cX12_foundShare 7 = .ok (.getfield 256, 3) := by decide +kernel
theorem dX12_foundShare_10 : decode cX12_foundShare 10 = .ok (.ifCond .ne 11, 3) := by decide +kernel
theorem dX12_foundShare_13 : decode cX12_foundShare 13 = .ok (.new 246, 3) := by decide +kernel
theorem dX12_foundShare_16 : decode cX12_foundShare 16 = .ok (.dup, 1) := by decide +kernel
theorem dX12_foundShare_17 : decode cX12_foundShare 17 = .ok (.invokespecial 248, 3) := by decide +kernel
theorem dX12_foundShare_20 : decode cX12_foundShare 20 = .ok (.athrow, 1) := by decide +kernel
theorem dX12_foundShare_21 : decode cX12_foundShare 21 = .ok (.aload_n 2, 1) := by decide +kernel
theorem dX12_foundShare_22 : decode cX12_foundShare 22 = .ok (.getfield 259, 3) := by decide +kernel
theorem dX12_foundShare_25 : decode cX12_foundShare 25 = .ok (.i2d, 1) := by decide +kernel
theorem dX12_foundShare_26 : decode cX12_foundShare 26 = .ok (.aload_n 2, 1) := by decide +kernel
theorem dX12_foundShare_27 : decode cX12_foundShare 27 = .ok (.getfield 256, 3) := by decide +kernel
theorem dX12_foundShare_30 : decode cX12_foundShare 30 = .ok (.i2d, 1) := by decide +kernel
theorem dX12_foundShare_31 : decode cX12_foundShare 31 = .ok (.ddiv, 1) := by decide +kernel
theorem dX12_foundShare_32 : decode cX12_foundShare 32 = .ok (.invokestatic 200, 3) := by decide +kernel
theorem dX12_foundShare_35 : decode cX12_foundShare 35 = .ok (.lreturn, 1) := by decide +kernel
theorem dX12_open_0 : decode cX12_open 0 = .ok (.aload_n 0, 1) := by decide +kernel
theorem dX12_open_1 : decode cX12_open 1 = .ok (.iload_n 1, 1) := by decide +kernel
theorem dX12_open_2 : decode cX12_open 2 = .ok (.invokevirtual 262, 3) := by decide +kernel
theorem dX12_open_5 : decode cX12_open 5 = .ok (.astore_n 3, 1) := by decide +kernel
theorem dX12_open_6 : decode cX12_open 6 = .ok (.iload_n 2, 1) := by decide +kernel
theorem dX12_open_7 : decode cX12_open 7 = .ok (.ifCond .lt 8, 3) := by decide +kernel
theorem dX12_open_10 : decode cX12_open 10 = .ok (.iload_n 2, 1) := by decide +kernel
theorem dX12_open_11 : decode cX12_open 11 = .ok (.iconst 2, 1) := by decide +kernel
theorem dX12_open_12 : decode cX12_open 12 = .ok (.if_icmp .le 11, 3) := by decide +kernel
theorem dX12_open_15 : decode cX12_open 15 = .ok (.new 100, 3) := by decide +kernel
theorem dX12_open_18 : decode cX12_open 18 = .ok (.dup, 1) := by decide +kernel
theorem dX12_open_19 : decode cX12_open 19 = .ok (.invokespecial 102, 3) := by decide +kernel
theorem dX12_open_22 : decode cX12_open 22 = .ok (.athrow, 1) := by decide +kernel
theorem dX12_open_23 : decode cX12_open 23 = .ok (.aload_n 3, 1) := by decide +kernel
theorem dX12_open_24 : decode cX12_open 24 = .ok (.getfield 266, 3) := by decide +kernel
theorem dX12_open_27 : decode cX12_open 27 = .ok (.istore 4, 2) := by decide +kernel
theorem dX12_open_29 : decode cX12_open 29 = .ok (.aload_n 3, 1) := by decide +kernel
theorem dX12_open_30 : decode cX12_open 30 = .ok (.iconst 0, 1) := by decide +kernel
theorem dX12_open_31 : decode cX12_open 31 = .ok (.putfield 266, 3) := by decide +kernel
theorem dX12_open_34 : decode cX12_open 34 = .ok (.aload_n 3, 1) := by decide +kernel
theorem dX12_open_35 : decode cX12_open 35 = .ok (.iload_n 2, 1) := by decide +kernel
theorem dX12_open_36 : decode cX12_open 36 = .ok (.putfield 269, 3) := by decide +kernel
theorem dX12_open_39 : decode cX12_open 39 = .ok (.iload 4, 2) := by decide +kernel
theorem dX12_open_41 : decode cX12_open 41 = .ok (.ireturn, 1) := by decide +kernel
theorem dX12_keep_0 : decode cX12_keep 0 = .ok (.aload_n 0, 1) := by decide +kernel
theorem dX12_keep_1 : decode cX12_keep 1 = .ok (.iload_n 1, 1) := by decide +kernel
theorem dX12_keep_2 : decode cX12_keep 2 = .ok (.invokevirtual 262, 3) := by decide +kernel
theorem dX12_keep_5 : decode cX12_keep 5 = .ok (.astore 4, 2) := by decide +kernel
theorem dX12_keep_7 : decode cX12_keep 7 = .ok (.aload_n 0, 1) := by decide +kernel
theorem dX12_keep_8 : decode cX12_keep 8 = .ok (.iload_n 2, 1) := by decide +kernel
theorem dX12_keep_9 : decode cX12_keep 9 = .ok (.iload_n 3, 1) := by decide +kernel
theorem dX12_keep_10 : decode cX12_keep 10 = .ok (.invokevirtual 169, 3) := by decide +kernel
theorem dX12_keep_13 : decode cX12_keep 13 = .ok (.astore 5, 2) := by decide +kernel
theorem dX12_keep_15 : decode cX12_keep 15 = .ok (.aload 4, 2) := by decide +kernel
theorem dX12_keep_17 : decode cX12_keep 17 = .ok (.invokevirtual 272, 3) := by decide +kernel
theorem dX12_keep_20 : decode cX12_keep 20 = .ok (.ifCond .eq 11, 3) := by decide +kernel
theorem dX12_keep_23 : decode cX12_keep 23 = .ok (.new 116, 3) := by decide +kernel
theorem dX12_keep_26 : decode cX12_keep 26 = .ok (.dup, 1) := by decide +kernel
theorem dX12_keep_27 : decode cX12_keep 27 = .ok (.invokespecial 118, 3) := by decide +kernel
theorem dX12_keep_30 : decode cX12_keep 30 = .ok (.athrow, 1) := by decide +kernel
theorem dX12_keep_31 : decode cX12_keep 31 = .ok (.aload 5, 2) := by decide +kernel
theorem dX12_keep_33 : decode cX12_keep 33 = .ok (.getfield 180, 3) := by decide +kernel
theorem dX12_keep_36 : decode cX12_keep 36 = .ok (.iload_n 3, 1) := by decide +kernel
theorem dX12_keep_37 : decode cX12_keep 37 = .ok (.iaload, 1) := by decide +kernel
theorem dX12_keep_38 : decode cX12_keep 38 = .ok (.istore 6, 2) := by decide +kernel
theorem dX12_keep_40 : decode cX12_keep 40 = .ok (.aload 4, 2) := by decide +kernel
theorem dX12_keep_42 : decode cX12_keep 42 = .ok (.aload 5, 2) := by decide +kernel
theorem dX12_keep_44 : decode cX12_keep 44 = .ok (.iload_n 3, 1) := by decide +kernel
theorem dX12_keep_45 : decode cX12_keep 45 = .ok (.aload_n 0, 1) := by decide +kernel
theorem dX12_keep_46 : decode cX12_keep 46 = .ok (.getfield 10, 3) := by decide +kernel
theorem dX12_keep_49 : decode cX12_keep 49 = .ok (.aload 5, 2) := by decide +kernel
theorem dX12_keep_51 : decode cX12_keep 51 = .ok (.invokevirtual 159, 3) := by decide +kernel
theorem dX12_keep_54 : decode cX12_keep 54 = .ok (.invokevirtual 183, 3) := by decide +kernel
theorem dX12_keep_57 : decode cX12_keep 57 = .ok (.iload 6, 2) := by decide +kernel
theorem dX12_keep_59 : decode cX12_keep 59 = .ok (.invokevirtual 276, 3) := by decide +kernel
theorem dX12_keep_62 : decode cX12_keep 62 = .ok (.ifCond .ne 11, 3) := by decide +kernel
theorem dX12_keep_65 : decode cX12_keep 65 = .ok (.new 280, 3) := by decide +kernel
theorem dX12_keep_68 : decode cX12_keep 68 = .ok (.dup, 1) := by decide +kernel
theorem dX12_keep_69 : decode cX12_keep 69 = .ok (.invokespecial 282, 3) := by decide +kernel
theorem dX12_keep_72 : decode cX12_keep 72 = .ok (.athrow, 1) := by decide +kernel
theorem dX12_keep_73 : decode cX12_keep 73 = .ok (.aload 4, 2) := by decide +kernel
theorem dX12_keep_75 : decode cX12_keep 75 = .ok (.iload_n 2, 1) := by decide +kernel
theorem dX12_keep_76 : decode cX12_keep 76 = .ok (.iload_n 3, 1) := by decide +kernel
theorem dX12_keep_77 : decode cX12_keep 77 = .ok (.aload 5, 2) := by decide +kernel
theorem dX12_keep_79 : decode cX12_keep 79 = .ok (.getfield 177, 3) := by decide +kernel
theorem dX12_keep_82 : decode cX12_keep 82 = .ok (.iload_n 3, 1) := by decide +kernel
theorem dX12_keep_83 : decode cX12_keep 83 = .ok (.iaload, 1) := by decide +kernel
theorem dX12_keep_84 : decode cX12_keep 84 = .ok (.iload 6, 2) := by decide +kernel
theorem dX12_keep_86 : decode cX12_keep 86 = .ok (.invokevirtual 283, 3) := by decide +kernel
theorem dX12_keep_89 : decode cX12_keep 89 = .ok (.aload 4, 2) := by decide +kernel
theorem dX12_keep_91 : decode cX12_keep 91 = .ok (.getfield 266, 3) := by decide +kernel
theorem dX12_keep_94 : decode cX12_keep 94 = .ok (.ireturn, 1) := by decide +kernel
theorem dX12_specimen_0 : decode cX12_specimen 0 = .ok (.aload_n 0, 1) := by decide +kernel
theorem dX12_specimen_1 : decode cX12_specimen 1 = .ok (.iload_n 1, 1) := by decide +kernel
theorem dX12_specimen_2 : decode cX12_specimen 2 = .ok (.invokevirtual 262, 3) := by decide +kernel
theorem dX12_specimen_5 : decode cX12_specimen 5 = .ok (.astore 4, 2) := by decide +kernel
theorem dX12_specimen_7 : decode cX12_specimen 7 = .ok (.iload_n 2, 1) := by decide +kernel
theorem dX12_specimen_8 : decode cX12_specimen 8 = .ok (.ifCond .lt 12, 3) := by decide +kernel
theorem dX12_specimen_11 : decode cX12_specimen 11 = .ok (.iload_n 2, 1) := by decide +kernel
theorem dX12_specimen_12 : decode cX12_specimen 12 = .ok (.aload 4, 2) := by decide +kernel
theorem dX12_specimen_14 : decode cX12_specimen 14 = .ok (.getfield 266, 3) := by decide +kernel
theorem dX12_specimen_17 : decode cX12_specimen 17 = .ok (.if_icmp .lt 11, 3) := by decide +kernel
theorem dX12_specimen_20 : decode cX12_specimen 20 = .ok (.new 83, 3) := by decide +kernel
theorem dX12_specimen_23 : decode cX12_specimen 23 = .ok (.dup, 1) := by decide +kernel
theorem dX12_specimen_24 : decode cX12_specimen 24 = .ok (.invokespecial 85, 3) := by decide +kernel
theorem dX12_specimen_27 : decode cX12_specimen 27 = .ok (.athrow, 1) := by decide +kernel
theorem dX12_specimen_28 : decode cX12_specimen 28 = .ok (.iload_n 3, 1) := by decide +kernel
theorem dX12_specimen_29 : decode cX12_specimen 29 = .ok (.ifCond .lt 8, 3) := by decide +kernel
theorem dX12_specimen_32 : decode cX12_specimen 32 = .ok (.iload_n 3, 1) := by decide +kernel
theorem dX12_specimen_33 : decode cX12_specimen 33 = .ok (.iconst 3, 1) := by decide +kernel
theorem dX12_specimen_34 : decode cX12_specimen 34 = .ok (.if_icmp .le 11, 3) := by decide +kernel
theorem dX12_specimen_37 : decode cX12_specimen 37 = .ok (.new 100, 3) := by decide +kernel
theorem dX12_specimen_40 : decode cX12_specimen 40 = .ok (.dup, 1) := by decide +kernel
theorem dX12_specimen_41 : decode cX12_specimen 41 = .ok (.invokespecial 102, 3) := by decide +kernel
theorem dX12_specimen_44 : decode cX12_specimen 44 = .ok (.athrow, 1) := by decide +kernel
theorem dX12_specimen_45 : decode cX12_specimen 45 = .ok (.aload 4, 2) := by decide +kernel
theorem dX12_specimen_47 : decode cX12_specimen 47 = .ok (.iload_n 2, 1) := by decide +kernel
theorem dX12_specimen_48 : decode cX12_specimen 48 = .ok (.iload_n 3, 1) := by decide +kernel
theorem dX12_specimen_49 : decode cX12_specimen 49 = .ok (.invokevirtual 287, 3) := by decide +kernel
theorem dX12_specimen_52 : decode cX12_specimen 52 = .ok (.ireturn, 1) := by decide +kernel
theorem dX12_append_0 : decode cX12_append 0 = .ok (.iload_n 1, 1) := by decide +kernel
theorem dX12_append_1 : decode cX12_append 1 = .ok (.invokestatic 289, 3) := by decide +kernel
theorem dX12_append_4 : decode cX12_append 4 = .ok (.istore_n 2, 1) := by decide +kernel
theorem dX12_append_5 : decode cX12_append 5 = .ok (.iload_n 2, 1) := by decide +kernel
theorem dX12_append_6 : decode cX12_append 6 = .ok (.ifCond .ge 11, 3) := by decide +kernel
theorem dX12_append_9 : decode cX12_append 9 = .ok (.new 100, 3) := by decide +kernel
theorem dX12_append_12 : decode cX12_append 12 = .ok (.dup, 1) := by decide +kernel
theorem dX12_append_13 : decode cX12_append 13 = .ok (.invokespecial 102, 3) := by decide +kernel
theorem dX12_append_16 : decode cX12_append 16 = .ok (.athrow, 1) := by decide +kernel
theorem dX12_append_17 : decode cX12_append 17 = .ok (.aload_n 0, 1) := by decide +kernel
theorem dX12_append_18 : decode cX12_append 18 = .ok (.getfield 35, 3) := by decide +kernel
theorem dX12_append_21 : decode cX12_append 21 = .ok (.iload_n 2, 1) := by decide +kernel
theorem dX12_append_22 : decode cX12_append 22 = .ok (.invokevirtual 292, 3) := by decide +kernel
theorem dX12_append_25 : decode cX12_append 25 = .ok (.ifCond .ne 11, 3) := by decide +kernel
theorem dX12_append_28 : decode cX12_append 28 = .ok (.new 116, 3) := by decide +kernel
theorem dX12_append_31 : decode cX12_append 31 = .ok (.dup, 1) := by decide +kernel
theorem dX12_append_32 : decode cX12_append 32 = .ok (.invokespecial 118, 3) := by decide +kernel
theorem dX12_append_35 : decode cX12_append 35 = .ok (.athrow, 1) := by decide +kernel
theorem dX12_append_36 : decode cX12_append 36 = .ok (.aload_n 0, 1) := by decide +kernel
theorem dX12_append_37 : decode cX12_append 37 = .ok (.getfield 35, 3) := by decide +kernel
theorem dX12_append_40 : decode cX12_append 40 = .ok (.iload_n 1, 1) := by decide +kernel
theorem dX12_append_41 : decode cX12_append 41 = .ok (.invokevirtual 296, 3) := by decide +kernel
theorem dX12_append_44 : decode cX12_append 44 = .ok (.aload_n 0, 1) := by decide +kernel
theorem dX12_append_45 : decode cX12_append 45 = .ok (.getfield 35, 3) := by decide +kernel
theorem dX12_append_48 : decode cX12_append 48 = .ok (.getfield 299, 3) := by decide +kernel
theorem dX12_append_51 : decode cX12_append 51 = .ok (.ireturn, 1) := by decide +kernel
theorem dX12_run_0 : decode cX12_run 0 = .ok (.aload_n 0, 1) := by decide +kernel
theorem dX12_run_1 : decode cX12_run 1 = .ok (.getfield 35, 3) := by decide +kernel
theorem dX12_run_4 : decode cX12_run 4 = .ok (.invokevirtual 302, 3) := by decide +kernel
theorem dX12_run_7 : decode cX12_run 7 = .ok (.ifCond .ne 18, 3) := by decide +kernel
theorem dX12_run_10 : decode cX12_run 10 = .ok (.aload_n 0, 1) := by decide +kernel
theorem dX12_run_11 : decode cX12_run 11 = .ok (.getfield 35, 3) := by decide +kernel
theorem dX12_run_14 : decode cX12_run 14 = .ok (.invokevirtual 305, 3) := by decide +kernel
theorem dX12_run_17 : decode cX12_run 17 = .ok (.new 100, 3) := by decide +kernel
theorem dX12_run_20 : decode cX12_run 20 = .ok (.dup, 1) := by decide +kernel
theorem dX12_run_21 : decode cX12_run 21 = .ok (.invokespecial 102, 3) := by decide +kernel
theorem dX12_run_24 : decode cX12_run 24 = .ok (.athrow, 1) := by decide +kernel
theorem dX12_run_25 : decode cX12_run 25 = .ok (.aload_n 0, 1) := by decide +kernel
theorem dX12_run_26 : decode cX12_run 26 = .ok (.invokevirtual 68, 3) := by decide +kernel
theorem dX12_run_29 : decode cX12_run 29 = .ok (.aload_n 0, 1) := by decide +kernel
theorem dX12_run_30 : decode cX12_run 30 = .ok (.getfield 35, 3) := by decide +kernel
theorem dX12_run_33 : decode cX12_run 33 = .ok (.invokevirtual 308, 3) := by decide +kernel
theorem dX12_run_36 : decode cX12_run 36 = .ok (.iconst 0, 1) := by decide +kernel
theorem dX12_run_37 : decode cX12_run 37 = .ok (.istore_n 1, 1) := by decide +kernel
theorem dX12_run_38 : decode cX12_run 38 = .ok (.iconst 0, 1) := by decide +kernel
theorem dX12_run_39 : decode cX12_run 39 = .ok (.istore_n 2, 1) := by decide +kernel
theorem dX12_run_40 : decode cX12_run 40 = .ok (.iload_n 1, 1) := by decide +kernel
theorem dX12_run_41 : decode cX12_run 41 = .ok (.bipush 60, 2) := by decide +kernel
theorem dX12_run_43 : decode cX12_run 43 = .ok (.if_icmp .ge 36, 3) := by decide +kernel
theorem dX12_run_46 : decode cX12_run 46 = .ok (.iload_n 2, 1) := by decide +kernel
theorem dX12_run_47 : decode cX12_run 47 = .ok (.ifCond .ne 32, 3) := by decide +kernel
theorem dX12_run_50 : decode cX12_run 50 = .ok (.aload_n 0, 1) := by decide +kernel
theorem dX12_run_51 : decode cX12_run 51 = .ok (.getfield 35, 3) := by decide +kernel
theorem dX12_run_54 : decode cX12_run 54 = .ok (.invokevirtual 311, 3) := by decide +kernel
theorem dX12_run_57 : decode cX12_run 57 = .ok (.ifCond .eq 22, 3) := by decide +kernel
theorem dX12_run_60 : decode cX12_run 60 = .ok (.aload_n 0, 1) := by decide +kernel
theorem dX12_run_61 : decode cX12_run 61 = .ok (.invokevirtual 314, 3) := by decide +kernel
theorem dX12_run_64 : decode cX12_run 64 = .ok (.ifCond .ge 7, 3) := by decide +kernel
theorem dX12_run_67 : decode cX12_run 67 = .ok (.iconst 1, 1) := by decide +kernel
theorem dX12_run_68 : decode cX12_run 68 = .ok (.goto 4, 3) := by decide +kernel
theorem dX12_run_71 : decode cX12_run 71 = .ok (.iconst 0, 1) := by decide +kernel
theorem dX12_run_72 : decode cX12_run 72 = .ok (.istore_n 2, 1) := by decide +kernel
theorem dX12_run_73 : decode cX12_run 73 = .ok (.iinc 1 1, 3) := by decide +kernel
theorem dX12_run_76 : decode cX12_run 76 = .ok (.goto (-36), 3) := by decide +kernel
theorem dX12_run_79 : decode cX12_run 79 = .ok (.aload_n 0, 1) := by decide +kernel
theorem dX12_run_80 : decode cX12_run 80 = .ok (.getfield 35, 3) := by decide +kernel
theorem dX12_run_83 : decode cX12_run 83 = .ok (.invokevirtual 305, 3) := by decide +kernel
theorem dX12_run_86 : decode cX12_run 86 = .ok (.iload_n 2, 1) := by decide +kernel
theorem dX12_run_87 : decode cX12_run 87 = .ok (.ifCond .eq 36, 3) := by decide +kernel
theorem dX12_run_90 : decode cX12_run 90 = .ok (.aload_n 0, 1) := by decide +kernel
theorem dX12_run_91 : decode cX12_run 91 = .ok (.getfield 35, 3) := by decide +kernel
theorem dX12_run_94 : decode cX12_run 94 = .ok (.aload_n 0, 1) := by decide +kernel
theorem dX12_run_95 : decode cX12_run 95 = .ok (.getfield 35, 3) := by decide +kernel
theorem dX12_run_98 : decode cX12_run 98 = .ok (.getfield 318, 3) := by decide +kernel
theorem dX12_run_101 : decode cX12_run 101 = .ok (.putfield 321, 3) := by decide +kernel
theorem dX12_run_104 : decode cX12_run 104 = .ok (.aload_n 0, 1) := by decide +kernel
theorem dX12_run_105 : decode cX12_run 105 = .ok (.getfield 10, 3) := by decide +kernel
theorem dX12_run_108 : decode cX12_run 108 = .ok (.aload_n 0, 1) := by decide +kernel
theorem dX12_run_109 : decode cX12_run 109 = .ok (.getfield 16, 3) := by decide +kernel
theorem dX12_run_112 : decode cX12_run 112 = .ok (.invokevirtual 324, 3) := by decide +kernel
theorem dX12_run_115 : decode cX12_run 115 = .ok (.new 116, 3) := by decide +kernel
theorem dX12_run_118 : decode cX12_run 118 = .ok (.dup, 1) := by decide +kernel
theorem dX12_run_119 : decode cX12_run 119 = .ok (.invokespecial 118, 3) := by decide +kernel
theorem dX12_run_122 : decode cX12_run 122 = .ok (.athrow, 1) := by decide +kernel
theorem dX12_run_123 : decode cX12_run 123 = .ok (.aload_n 0, 1) := by decide +kernel
theorem dX12_run_124 : decode cX12_run 124 = .ok (.iload_n 1, 1) := by decide +kernel
theorem dX12_run_125 : decode cX12_run 125 = .ok (.invokevirtual 75, 3) := by decide +kernel
theorem dX12_run_128 : decode cX12_run 128 = .ok (.ireturn, 1) := by decide +kernel
theorem dX12_errorPosition_0 : decode cX12_errorPosition 0 = .ok (.aload_n 0, 1) := by decide +kernel
theorem dX12_errorPosition_1 : decode cX12_errorPosition 1 = .ok (.getfield 35, 3) := by decide +kernel
theorem dX12_errorPosition_4 : decode cX12_errorPosition 4 = .ok (.getfield 321, 3) := by decide +kernel
theorem dX12_errorPosition_7 : decode cX12_errorPosition 7 = .ok (.ireturn, 1) := by decide +kernel
theorem dX12_report_0 : decode cX12_report 0 = .ok (.aload_n 0, 1) := by decide +kernel
theorem dX12_report_1 : decode cX12_report 1 = .ok (.iload_n 1, 1) := by decide +kernel
theorem dX12_report_2 : decode cX12_report 2 = .ok (.invokevirtual 152, 3) := by decide +kernel
theorem dX12_report_5 : decode cX12_report 5 = .ok (.astore_n 2, 1) := by decide +kernel
theorem dX12_report_6 : decode cX12_report 6 = .ok (.aload_n 0, 1) := by decide +kernel
theorem dX12_report_7 : decode cX12_report 7 = .ok (.getfield 42, 3) := by decide +kernel
theorem dX12_report_10 : decode cX12_report 10 = .ok (.iload_n 1, 1) := by decide +kernel
theorem dX12_report_11 : decode cX12_report 11 = .ok (.aload_n 2, 1) := by decide +kernel
theorem dX12_report_12 : decode cX12_report 12 = .ok (.invokevirtual 327, 3) := by decide +kernel
theorem dX12_report_15 : decode cX12_report 15 = .ok (.aload_n 0, 1) := by decide +kernel
theorem dX12_report_16 : decode cX12_report 16 = .ok (.getfield 42, 3) := by decide +kernel
theorem dX12_report_19 : decode cX12_report 19 = .ok (.getfield 331, 3) := by decide +kernel
theorem dX12_report_22 : decode cX12_report 22 = .ok (.invokevirtual 335, 3) := by decide +kernel
theorem dX12_report_25 : decode cX12_report 25 = .ok (.ireturn, 1) := by decide +kernel
theorem dX12_character_0 : decode cX12_character 0 = .ok (.iload_n 1, 1) := by decide +kernel
theorem dX12_character_1 : decode cX12_character 1 = .ok (.ifCond .lt 17, 3) := by decide +kernel
theorem dX12_character_4 : decode cX12_character 4 = .ok (.iload_n 1, 1) := by decide +kernel
theorem dX12_character_5 : decode cX12_character 5 = .ok (.aload_n 0, 1) := by decide +kernel
theorem dX12_character_6 : decode cX12_character 6 = .ok (.getfield 42, 3) := by decide +kernel
theorem dX12_character_9 : decode cX12_character 9 = .ok (.getfield 331, 3) := by decide +kernel
theorem dX12_character_12 : decode cX12_character 12 = .ok (.invokevirtual 335, 3) := by decide +kernel
theorem dX12_character_15 : decode cX12_character 15 = .ok (.if_icmp .lt 11, 3) := by decide +kernel
theorem dX12_character_18 : decode cX12_character 18 = .ok (.new 83, 3) := by decide +kernel
theorem dX12_character_21 : decode cX12_character 21 = .ok (.dup, 1) := by decide +kernel
theorem dX12_character_22 : decode cX12_character 22 = .ok (.invokespecial 85, 3) := by decide +kernel
theorem dX12_character_25 : decode cX12_character 25 = .ok (.athrow, 1) := by decide +kernel
theorem dX12_character_26 : decode cX12_character 26 = .ok (.aload_n 0, 1) := by decide +kernel
theorem dX12_character_27 : decode cX12_character 27 = .ok (.getfield 42, 3) := by decide +kernel
theorem dX12_character_30 : decode cX12_character 30 = .ok (.getfield 331, 3) := by decide +kernel
theorem dX12_character_33 : decode cX12_character 33 = .ok (.iload_n 1, 1) := by decide +kernel
theorem dX12_character_34 : decode cX12_character 34 = .ok (.invokevirtual 339, 3) := by decide +kernel
theorem dX12_character_37 : decode cX12_character 37 = .ok (.ireturn, 1) := by decide +kernel
theorem dX12_undo_0 : decode cX12_undo 0 = .ok (.aload_n 0, 1) := by decide +kernel
theorem dX12_undo_1 : decode cX12_undo 1 = .ok (.getfield 343, 3) := by decide +kernel
theorem dX12_undo_4 : decode cX12_undo 4 = .ok (.ifCond .ne 11, 3) := by decide +kernel
theorem dX12_undo_7 : decode cX12_undo 7 = .ok (.new 116, 3) := by decide +kernel
theorem dX12_undo_10 : decode cX12_undo 10 = .ok (.dup, 1) := by decide +kernel
theorem dX12_undo_11 : decode cX12_undo 11 = .ok (.invokespecial 118, 3) := by decide +kernel
theorem dX12_undo_14 : decode cX12_undo 14 = .ok (.athrow, 1) := by decide +kernel
theorem dX12_undo_15 : decode cX12_undo 15 = .ok (.aload_n 0, 1) := by decide +kernel
theorem dX12_undo_16 : decode cX12_undo 16 = .ok (.aload_n 0, 1) := by decide +kernel
theorem dX12_undo_17 : decode cX12_undo 17 = .ok (.getfield 346, 3) := by decide +kernel
theorem dX12_undo_20 : decode cX12_undo 20 = .ok (.ifCond .ne 13, 3) := by decide +kernel
theorem dX12_undo_23 : decode cX12_undo 23 = .ok (.aload_n 0, 1) := by decide +kernel
theorem dX12_undo_24 : decode cX12_undo 24 = .ok (.getfield 19, 3) := by decide +kernel
theorem dX12_undo_27 : decode cX12_undo 27 = .ok (.arraylength, 1) := by decide +kernel
theorem dX12_undo_28 : decode cX12_undo 28 = .ok (.iconst 1, 1) := by decide +kernel
theorem dX12_undo_29 : decode cX12_undo 29 = .ok (.isub, 1) := by decide +kernel
theorem dX12_undo_30 : decode cX12_undo 30 = .ok (.goto 9, 3) := by decide +kernel
theorem dX12_undo_33 : decode cX12_undo 33 = .ok (.aload_n 0, 1) := by decide +kernel
theorem dX12_undo_34 : decode cX12_undo 34 = .ok (.getfield 346, 3) := by decide +kernel
theorem dX12_undo_37 : decode cX12_undo 37 = .ok (.iconst 1, 1) := by decide +kernel
theorem dX12_undo_38 : decode cX12_undo 38 = .ok (.isub, 1) := by decide +kernel
theorem dX12_undo_39 : decode cX12_undo 39 = .ok (.putfield 346, 3) := by decide +kernel
theorem dX12_undo_42 : decode cX12_undo 42 = .ok (.aload_n 0, 1) := by decide +kernel
theorem dX12_undo_43 : decode cX12_undo 43 = .ok (.getfield 10, 3) := by decide +kernel
theorem dX12_undo_46 : decode cX12_undo 46 = .ok (.astore_n 1, 1) := by decide +kernel
theorem dX12_undo_47 : decode cX12_undo 47 = .ok (.aload_n 0, 1) := by decide +kernel
theorem dX12_undo_48 : decode cX12_undo 48 = .ok (.aload_n 0, 1) := by decide +kernel
theorem dX12_undo_49 : decode cX12_undo 49 = .ok (.getfield 19, 3) := by decide +kernel
theorem dX12_undo_52 : decode cX12_undo 52 = .ok (.aload_n 0, 1) := by decide +kernel
theorem dX12_undo_53 : decode cX12_undo 53 = .ok (.getfield 346, 3) := by decide +kernel
theorem dX12_undo_56 : decode cX12_undo 56 = .ok (.aaload, 1) := by decide +kernel
theorem dX12_undo_57 : decode cX12_undo 57 = .ok (.putfield 10, 3) := by decide +kernel
theorem dX12_undo_60 : decode cX12_undo 60 = .ok (.aload_n 0, 1) := by decide +kernel
theorem dX12_undo_61 : decode cX12_undo 61 = .ok (.getfield 19, 3) := by decide +kernel
theorem dX12_undo_64 : decode cX12_undo 64 = .ok (.aload_n 0, 1) := by decide +kernel
theorem dX12_undo_65 : decode cX12_undo 65 = .ok (.getfield 346, 3) := by decide +kernel
theorem dX12_undo_68 : decode cX12_undo 68 = .ok (.aload_n 1, 1) := by decide +kernel
theorem dX12_undo_69 : decode cX12_undo 69 = .ok (.aastore, 1) := by decide +kernel
theorem dX12_undo_70 : decode cX12_undo 70 = .ok (.aload_n 0, 1) := by decide +kernel
theorem dX12_undo_71 : decode cX12_undo 71 = .ok (.dup, 1) := by decide +kernel
theorem dX12_undo_72 : decode cX12_undo 72 = .ok (.getfield 343, 3) := by decide +kernel
theorem dX12_undo_75 : decode cX12_undo 75 = .ok (.iconst 1, 1) := by decide +kernel
theorem dX12_undo_76 : decode cX12_undo 76 = .ok (.isub, 1) := by decide +kernel
theorem dX12_undo_77 : decode cX12_undo 77 = .ok (.putfield 343, 3) := by decide +kernel
theorem dX12_undo_80 : decode cX12_undo 80 = .ok (.aload_n 0, 1) := by decide +kernel
theorem dX12_undo_81 : decode cX12_undo 81 = .ok (.getfield 343, 3) := by decide +kernel
theorem dX12_undo_84 : decode cX12_undo 84 = .ok (.ireturn, 1) := by decide +kernel
theorem dX12_save_0 : decode cX12_save 0 = .ok (.aload_n 0, 1) := by decide +kernel
theorem dX12_save_1 : decode cX12_save 1 = .ok (.getfield 23, 3) := by decide +kernel
theorem dX12_save_4 : decode cX12_save 4 = .ok (.aload_n 0, 1) := by decide +kernel
theorem dX12_save_5 : decode cX12_save 5 = .ok (.getfield 10, 3) := by decide +kernel
theorem dX12_save_8 : decode cX12_save 8 = .ok (.invokevirtual 324, 3) := by decide +kernel
theorem dX12_save_11 : decode cX12_save 11 = .ok (.aload_n 0, 1) := by decide +kernel
theorem dX12_save_12 : decode cX12_save 12 = .ok (.iconst 1, 1) := by decide +kernel
theorem dX12_save_13 : decode cX12_save 13 = .ok (.putfield 349, 3) := by decide +kernel
theorem dX12_save_16 : decode cX12_save 16 = .ok (.aload_n 0, 1) := by decide +kernel
theorem dX12_save_17 : decode cX12_save 17 = .ok (.getfield 10, 3) := by decide +kernel
theorem dX12_save_20 : decode cX12_save 20 = .ok (.getfield 353, 3) := by decide +kernel
theorem dX12_save_23 : decode cX12_save 23 = .ok (.ireturn, 1) := by decide +kernel
theorem dX12_restore_0 : decode cX12_restore 0 = .ok (.aload_n 0, 1) := by decide +kernel
theorem dX12_restore_1 : decode cX12_restore 1 = .ok (.getfield 349, 3) := by decide +kernel
theorem dX12_restore_4 : decode cX12_restore 4 = .ok (.ifCond .ne 11, 3) := by decide +kernel
theorem dX12_restore_7 : decode cX12_restore 7 = .ok (.new 116, 3) := by decide +kernel
theorem dX12_restore_10 : decode cX12_restore 10 = .ok (.dup, 1) := by decide +kernel
theorem dX12_restore_11 : decode cX12_restore 11 = .ok (.invokespecial 118, 3) := by decide +kernel
theorem dX12_restore_14 : decode cX12_restore 14 = .ok (.athrow, 1) := by decide +kernel
theorem dX12_restore_15 : decode cX12_restore 15 = .ok (.aload_n 0, 1) := by decide +kernel
theorem dX12_restore_16 : decode cX12_restore 16 = .ok (.getfield 10, 3) := by decide +kernel
theorem dX12_restore_19 : decode cX12_restore 19 = .ok (.aload_n 0, 1) := by decide +kernel
theorem dX12_restore_20 : decode cX12_restore 20 = .ok (.getfield 23, 3) := by decide +kernel
theorem dX12_restore_23 : decode cX12_restore 23 = .ok (.invokevirtual 324, 3) := by decide +kernel
theorem dX12_restore_26 : decode cX12_restore 26 = .ok (.aload_n 0, 1) := by decide +kernel
theorem dX12_restore_27 : decode cX12_restore 27 = .ok (.iconst 0, 1) := by decide +kernel
theorem dX12_restore_28 : decode cX12_restore 28 = .ok (.putfield 343, 3) := by decide +kernel
theorem dX12_restore_31 : decode cX12_restore 31 = .ok (.aload_n 0, 1) := by decide +kernel
theorem dX12_restore_32 : decode cX12_restore 32 = .ok (.getfield 10, 3) := by decide +kernel
theorem dX12_restore_35 : decode cX12_restore 35 = .ok (.getfield 353, 3) := by decide +kernel
theorem dX12_restore_38 : decode cX12_restore 38 = .ok (.ireturn, 1) := by decide +kernel
theorem dX12_count_0 : decode cX12_count 0 = .ok (.iload_n 1, 1) := by decide +kernel
theorem dX12_count_1 : decode cX12_count 1 = .ok (.tableswitch 96 0 6 #[43, 51, 59, 67, 75, 80, 88], 43) := by decide +kernel
theorem dX12_count_44 : decode cX12_count 44 = .ok (.aload_n 0, 1) := by decide +kernel
theorem dX12_count_45 : decode cX12_count 45 = .ok (.getfield 10, 3) := by decide +kernel
theorem dX12_count_48 : decode cX12_count 48 = .ok (.getfield 353, 3) := by decide +kernel
theorem dX12_count_51 : decode cX12_count 51 = .ok (.ireturn, 1) := by decide +kernel
theorem dX12_count_52 : decode cX12_count 52 = .ok (.aload_n 0, 1) := by decide +kernel
theorem dX12_count_53 : decode cX12_count 53 = .ok (.getfield 10, 3) := by decide +kernel
theorem dX12_count_56 : decode cX12_count 56 = .ok (.invokevirtual 356, 3) := by decide +kernel
theorem dX12_count_59 : decode cX12_count 59 = .ok (.ireturn, 1) := by decide +kernel
theorem dX12_count_60 : decode cX12_count 60 = .ok (.aload_n 0, 1) := by decide +kernel
theorem dX12_count_61 : decode cX12_count 61 = .ok (.getfield 10, 3) := by decide +kernel
theorem dX12_count_64 : decode cX12_count 64 = .ok (.getfield 359, 3) := by decide +kernel
theorem dX12_count_67 : decode cX12_count 67 = .ok (.ireturn, 1) := by decide +kernel
theorem dX12_count_68 : decode cX12_count 68 = .ok (.aload_n 0, 1) := by decide +kernel
theorem dX12_count_69 : decode cX12_count 69 = .ok (.getfield 10, 3) := by decide +kernel
theorem dX12_count_72 : decode cX12_count 72 = .ok (.getfield 361, 3) := by decide +kernel
theorem dX12_count_75 : decode cX12_count 75 = .ok (.ireturn, 1) := by decide +kernel
theorem dX12_count_76 : decode cX12_count 76 = .ok (.aload_n 0, 1) := by decide +kernel
theorem dX12_count_77 : decode cX12_count 77 = .ok (.getfield 343, 3) := by decide +kernel
theorem dX12_count_80 : decode cX12_count 80 = .ok (.ireturn, 1) := by decide +kernel
theorem dX12_count_81 : decode cX12_count 81 = .ok (.aload_n 0, 1) := by decide +kernel
theorem dX12_count_82 : decode cX12_count 82 = .ok (.getfield 35, 3) := by decide +kernel
theorem dX12_count_85 : decode cX12_count 85 = .ok (.getfield 299, 3) := by decide +kernel
theorem dX12_count_88 : decode cX12_count 88 = .ok (.ireturn, 1) := by decide +kernel
theorem dX12_count_89 : decode cX12_count 89 = .ok (.aload_n 0, 1) := by decide +kernel
theorem dX12_count_90 : decode cX12_count 90 = .ok (.getfield 10, 3) := by decide +kernel
theorem dX12_count_93 : decode cX12_count 93 = .ok (.getfield 364, 3) := by decide +kernel
theorem dX12_count_96 : decode cX12_count 96 = .ok (.ireturn, 1) := by decide +kernel
theorem dX12_count_97 : decode cX12_count 97 = .ok (.iload_n 1, 1) := by decide +kernel
theorem dX12_count_98 : decode cX12_count 98 = .ok (.bipush 10, 2) := by decide +kernel
theorem dX12_count_100 : decode cX12_count 100 = .ok (.if_icmp .lt 9, 3) := by decide +kernel
theorem dX12_count_103 : decode cX12_count 103 = .ok (.iload_n 1, 1) := by decide +kernel
theorem dX12_count_104 : decode cX12_count 104 = .ok (.bipush 14, 2) := by decide +kernel
theorem dX12_count_106 : decode cX12_count 106 = .ok (.if_icmp .le 11, 3) := by decide +kernel
theorem dX12_count_109 : decode cX12_count 109 = .ok (.new 100, 3) := by decide +kernel
theorem dX12_count_112 : decode cX12_count 112 = .ok (.dup, 1) := by decide +kernel
theorem dX12_count_113 : decode cX12_count 113 = .ok (.invokespecial 102, 3) := by decide +kernel
theorem dX12_count_116 : decode cX12_count 116 = .ok (.athrow, 1) := by decide +kernel
theorem dX12_count_117 : decode cX12_count 117 = .ok (.aload_n 0, 1) := by decide +kernel
theorem dX12_count_118 : decode cX12_count 118 = .ok (.getfield 10, 3) := by decide +kernel
theorem dX12_count_121 : decode cX12_count 121 = .ok (.iload_n 1, 1) := by decide +kernel
theorem dX12_count_122 : decode cX12_count 122 = .ok (.bipush 10, 2) := by decide +kernel
theorem dX12_count_124 : decode cX12_count 124 = .ok (.isub, 1) := by decide +kernel
theorem dX12_count_125 : decode cX12_count 125 = .ok (.invokevirtual 367, 3) := by decide +kernel
theorem dX12_count_128 : decode cX12_count 128 = .ok (.ireturn, 1) := by decide +kernel
theorem dX12_existingProduct_0 : decode cX12_existingProduct 0 = .ok (.aload_n 0, 1) := by decide +kernel
theorem dX12_existingProduct_1 : decode cX12_existingProduct 1 = .ok (.getfield 10, 3) := by decide +kernel
theorem dX12_existingProduct_4 : decode cX12_existingProduct 4 = .ok (.iload_n 1, 1) := by decide +kernel
theorem dX12_existingProduct_5 : decode cX12_existingProduct 5 = .ok (.invokevirtual 190, 3) := by decide +kernel
theorem dX12_existingProduct_8 : decode cX12_existingProduct 8 = .ok (.astore_n 2, 1) := by decide +kernel
theorem dX12_existingProduct_9 : decode cX12_existingProduct 9 = .ok (.aload_n 2, 1) := by decide +kernel
theorem dX12_existingProduct_10 : decode cX12_existingProduct 10 = .ok (.ifnonnull 11, 3) := by decide +kernel
theorem dX12_existingProduct_13 : decode cX12_existingProduct 13 = .ok (.new 83, 3) := by decide +kernel
theorem dX12_existingProduct_16 : decode cX12_existingProduct 16 = .ok (.dup, 1) := by decide +kernel
theorem dX12_existingProduct_17 : decode cX12_existingProduct 17 = .ok (.invokespecial 85, 3) := by decide +kernel
theorem dX12_existingProduct_20 : decode cX12_existingProduct 20 = .ok (.athrow, 1) := by decide +kernel
theorem dX12_existingProduct_21 : decode cX12_existingProduct 21 = .ok (.aload_n 2, 1) := by decide +kernel
theorem dX12_existingProduct_22 : decode cX12_existingProduct 22 = .ok (.areturn, 1) := by decide +kernel
theorem dX12_existingLot_0 : decode cX12_existingLot 0 = .ok (.aload_n 0, 1) := by decide +kernel
theorem dX12_existingLot_1 : decode cX12_existingLot 1 = .ok (.getfield 10, 3) := by decide +kernel
theorem dX12_existingLot_4 : decode cX12_existingLot 4 = .ok (.iload_n 1, 1) := by decide +kernel
theorem dX12_existingLot_5 : decode cX12_existingLot 5 = .ok (.invokevirtual 370, 3) := by decide +kernel
theorem dX12_existingLot_8 : decode cX12_existingLot 8 = .ok (.astore_n 2, 1) := by decide +kernel
theorem dX12_existingLot_9 : decode cX12_existingLot 9 = .ok (.aload_n 2, 1) := by decide +kernel
theorem dX12_existingLot_10 : decode cX12_existingLot 10 = .ok (.ifnonnull 11, 3) := by decide +kernel
theorem dX12_existingLot_13 : decode cX12_existingLot 13 = .ok (.new 83, 3) := by decide +kernel
theorem dX12_existingLot_16 : decode cX12_existingLot 16 = .ok (.dup, 1) := by decide +kernel
theorem dX12_existingLot_17 : decode cX12_existingLot 17 = .ok (.invokespecial 85, 3) := by decide +kernel
theorem dX12_existingLot_20 : decode cX12_existingLot 20 = .ok (.athrow, 1) := by decide +kernel
theorem dX12_existingLot_21 : decode cX12_existingLot 21 = .ok (.aload_n 2, 1) := by decide +kernel
theorem dX12_existingLot_22 : decode cX12_existingLot 22 = .ok (.areturn, 1) := by decide +kernel
theorem dX12_lotWithUnit_0 : decode cX12_lotWithUnit 0 = .ok (.aload_n 0, 1) := by decide +kernel
theorem dX12_lotWithUnit_1 : decode cX12_lotWithUnit 1 = .ok (.getfield 10, 3) := by decide +kernel
theorem dX12_lotWithUnit_4 : decode cX12_lotWithUnit 4 = .ok (.iload_n 1, 1) := by decide +kernel
theorem dX12_lotWithUnit_5 : decode cX12_lotWithUnit 5 = .ok (.invokevirtual 370, 3) := by decide +kernel
theorem dX12_lotWithUnit_8 : decode cX12_lotWithUnit 8 = .ok (.astore_n 3, 1) := by decide +kernel
theorem dX12_lotWithUnit_9 : decode cX12_lotWithUnit 9 = .ok (.aload_n 3, 1) := by decide +kernel
theorem dX12_lotWithUnit_10 : decode cX12_lotWithUnit 10 = .ok (.ifnull 11, 3) := by decide +kernel
theorem dX12_lotWithUnit_13 : decode cX12_lotWithUnit 13 = .ok (.aload_n 3, 1) := by decide +kernel
theorem dX12_lotWithUnit_14 : decode cX12_lotWithUnit 14 = .ok (.iload_n 2, 1) := by decide +kernel
theorem dX12_lotWithUnit_15 : decode cX12_lotWithUnit 15 = .ok (.invokevirtual 373, 3) := by decide +kernel
theorem dX12_lotWithUnit_18 : decode cX12_lotWithUnit 18 = .ok (.ifCond .ne 11, 3) := by decide +kernel
theorem dX12_lotWithUnit_21 : decode cX12_lotWithUnit 21 = .ok (.new 83, 3) := by decide +kernel
theorem dX12_lotWithUnit_24 : decode cX12_lotWithUnit 24 = .ok (.dup, 1) := by decide +kernel
theorem dX12_lotWithUnit_25 : decode cX12_lotWithUnit 25 = .ok (.invokespecial 85, 3) := by decide +kernel
theorem dX12_lotWithUnit_28 : decode cX12_lotWithUnit 28 = .ok (.athrow, 1) := by decide +kernel
theorem dX12_lotWithUnit_29 : decode cX12_lotWithUnit 29 = .ok (.aload_n 3, 1) := by decide +kernel
theorem dX12_lotWithUnit_30 : decode cX12_lotWithUnit 30 = .ok (.areturn, 1) := by decide +kernel
theorem dX12_existingDrawer_0 : decode cX12_existingDrawer 0 = .ok (.iload_n 1, 1) := by decide +kernel
theorem dX12_existingDrawer_1 : decode cX12_existingDrawer 1 = .ok (.ifCond .lt 12, 3) := by decide +kernel
theorem dX12_existingDrawer_4 : decode cX12_existingDrawer 4 = .ok (.iload_n 1, 1) := by decide +kernel
theorem dX12_existingDrawer_5 : decode cX12_existingDrawer 5 = .ok (.aload_n 0, 1) := by decide +kernel
theorem dX12_existingDrawer_6 : decode cX12_existingDrawer 6 = .ok (.getfield 28, 3) := by decide +kernel
theorem dX12_existingDrawer_9 : decode cX12_existingDrawer 9 = .ok (.arraylength, 1) := by decide +kernel
theorem dX12_existingDrawer_10 : decode cX12_existingDrawer 10 = .ok (.if_icmp .lt 11, 3) := by decide +kernel
theorem dX12_existingDrawer_13 : decode cX12_existingDrawer 13 = .ok (.new 83, 3) := by decide +kernel
theorem dX12_existingDrawer_16 : decode cX12_existingDrawer 16 = .ok (.dup, 1) := by decide +kernel
theorem dX12_existingDrawer_17 : decode cX12_existingDrawer 17 = .ok (.invokespecial 85, 3) := by decide +kernel
theorem dX12_existingDrawer_20 : decode cX12_existingDrawer 20 = .ok (.athrow, 1) := by decide +kernel
theorem dX12_existingDrawer_21 : decode cX12_existingDrawer 21 = .ok (.aload_n 0, 1) := by decide +kernel
theorem dX12_existingDrawer_22 : decode cX12_existingDrawer 22 = .ok (.getfield 28, 3) := by decide +kernel
theorem dX12_existingDrawer_25 : decode cX12_existingDrawer 25 = .ok (.iload_n 1, 1) := by decide +kernel
theorem dX12_existingDrawer_26 : decode cX12_existingDrawer 26 = .ok (.aaload, 1) := by decide +kernel
theorem dX12_existingDrawer_27 : decode cX12_existingDrawer 27 = .ok (.areturn, 1) := by decide +kernel
theorem dX12_beginChange_0 : decode cX12_beginChange 0 = .ok (.aload_n 0, 1) := by decide +kernel
theorem dX12_beginChange_1 : decode cX12_beginChange 1 = .ok (.getfield 16, 3) := by decide +kernel
theorem dX12_beginChange_4 : decode cX12_beginChange 4 = .ok (.aload_n 0, 1) := by decide +kernel
theorem dX12_beginChange_5 : decode cX12_beginChange 5 = .ok (.getfield 10, 3) := by decide +kernel
theorem dX12_beginChange_8 : decode cX12_beginChange 8 = .ok (.invokevirtual 324, 3) := by decide +kernel
theorem dX12_beginChange_11 : decode cX12_beginChange 11 = .ok (.return_, 1) := by decide +kernel
theorem dX12_endChange_0 : decode cX12_endChange 0 = .ok (.iload_n 1, 1) := by decide +kernel
theorem dX12_endChange_1 : decode cX12_endChange 1 = .ok (.invokestatic 376, 3) := by decide +kernel
theorem dX12_endChange_4 : decode cX12_endChange 4 = .ok (.aload_n 0, 1) := by decide +kernel
theorem dX12_endChange_5 : decode cX12_endChange 5 = .ok (.getfield 19, 3) := by decide +kernel
theorem dX12_endChange_8 : decode cX12_endChange 8 = .ok (.aload_n 0, 1) := by decide +kernel
theorem dX12_endChange_9 : decode cX12_endChange 9 = .ok (.getfield 346, 3) := by decide +kernel
theorem dX12_endChange_12 : decode cX12_endChange 12 = .ok (.aaload, 1) := by decide +kernel
theorem dX12_endChange_13 : decode cX12_endChange 13 = .ok (.astore_n 2, 1) := by decide +kernel
theorem dX12_endChange_14 : decode cX12_endChange 14 = .ok (.aload_n 0, 1) := by decide +kernel
theorem dX12_endChange_15 : decode cX12_endChange 15 = .ok (.getfield 19, 3) := by decide +kernel
theorem dX12_endChange_18 : decode cX12_endChange 18 = .ok (.aload_n 0, 1) := by decide +kernel
theorem dX12_endChange_19 : decode cX12_endChange 19 = .ok (.getfield 346, 3) := by decide +kernel
theorem dX12_endChange_22 : decode cX12_endChange 22 = .ok (.aload_n 0, 1) := by decide +kernel
theorem dX12_endChange_23 : decode cX12_endChange 23 = .ok (.getfield 16, 3) := by decide +kernel
theorem dX12_endChange_26 : decode cX12_endChange 26 = .ok (.aastore, 1) := by decide +kernel
theorem dX12_endChange_27 : decode cX12_endChange 27 = .ok (.aload_n 0, 1) := by decide +kernel
theorem dX12_endChange_28 : decode cX12_endChange 28 = .ok (.aload_n 2, 1) := by decide +kernel
theorem dX12_endChange_29 : decode cX12_endChange 29 = .ok (.putfield 16, 3) := by decide +kernel
theorem dX12_endChange_32 : decode cX12_endChange 32 = .ok (.aload_n 0, 1) := by decide +kernel
theorem dX12_endChange_33 : decode cX12_endChange 33 = .ok (.aload_n 0, 1) := by decide +kernel
theorem dX12_endChange_34 : decode cX12_endChange 34 = .ok (.getfield 346, 3) := by decide +kernel
theorem dX12_endChange_37 : decode cX12_endChange 37 = .ok (.aload_n 0, 1) := by decide +kernel
theorem dX12_endChange_38 : decode cX12_endChange 38 = .ok (.getfield 19, 3) := by decide +kernel
theorem dX12_endChange_41 : decode cX12_endChange 41 = .ok (.arraylength, 1) := by decide +kernel
theorem dX12_endChange_42 : decode cX12_endChange 42 = .ok (.iconst 1, 1) := by decide +kernel
theorem dX12_endChange_43 : decode cX12_endChange 43 = .ok (.isub, 1) := by decide +kernel
theorem dX12_endChange_44 : decode cX12_endChange 44 = .ok (.if_icmp .ne 7, 3) := by decide +kernel
theorem dX12_endChange_47 : decode cX12_endChange 47 = .ok (.iconst 0, 1) := by decide +kernel
theorem dX12_endChange_48 : decode cX12_endChange 48 = .ok (.goto 9, 3) := by decide +kernel
theorem dX12_endChange_51 : decode cX12_endChange 51 = .ok (.aload_n 0, 1) := by decide +kernel
theorem dX12_endChange_52 : decode cX12_endChange 52 = .ok (.getfield 346, 3) := by decide +kernel
theorem dX12_endChange_55 : decode cX12_endChange 55 = .ok (.iconst 1, 1) := by decide +kernel
theorem dX12_endChange_56 : decode cX12_endChange 56 = .ok (.iadd, 1) := by decide +kernel
theorem dX12_endChange_57 : decode cX12_endChange 57 = .ok (.putfield 346, 3) := by decide +kernel
theorem dX12_endChange_60 : decode cX12_endChange 60 = .ok (.aload_n 0, 1) := by decide +kernel
theorem dX12_endChange_61 : decode cX12_endChange 61 = .ok (.getfield 343, 3) := by decide +kernel
theorem dX12_endChange_64 : decode cX12_endChange 64 = .ok (.aload_n 0, 1) := by decide +kernel
theorem dX12_endChange_65 : decode cX12_endChange 65 = .ok (.getfield 19, 3) := by decide +kernel
theorem dX12_endChange_68 : decode cX12_endChange 68 = .ok (.arraylength, 1) := by decide +kernel
theorem dX12_endChange_69 : decode cX12_endChange 69 = .ok (.if_icmp .ge 13, 3) := by decide +kernel
theorem dX12_endChange_72 : decode cX12_endChange 72 = .ok (.aload_n 0, 1) := by decide +kernel
theorem dX12_endChange_73 : decode cX12_endChange 73 = .ok (.dup, 1) := by decide +kernel
theorem dX12_endChange_74 : decode cX12_endChange 74 = .ok (.getfield 343, 3) := by decide +kernel
theorem dX12_endChange_77 : decode cX12_endChange 77 = .ok (.iconst 1, 1) := by decide +kernel
theorem dX12_endChange_78 : decode cX12_endChange 78 = .ok (.iadd, 1) := by decide +kernel
theorem dX12_endChange_79 : decode cX12_endChange 79 = .ok (.putfield 343, 3) := by decide +kernel
theorem dX12_endChange_82 : decode cX12_endChange 82 = .ok (.iload_n 1, 1) := by decide +kernel
theorem dX12_endChange_83 : decode cX12_endChange 83 = .ok (.ireturn, 1) := by decide +kernel
theorem dX12_refuse_0 : decode cX12_refuse 0 = .ok (.iload_n 0, 1) := by decide +kernel
theorem dX12_refuse_1 : decode cX12_refuse 1 = .ok (.tableswitch 63 (-4) (-1) #[55, 47, 39, 31], 31) := by decide +kernel
theorem dX12_refuse_32 : decode cX12_refuse 32 = .ok (.new 83, 3) := by decide +kernel
theorem dX12_refuse_35 : decode cX12_refuse 35 = .ok (.dup, 1) := by decide +kernel
theorem dX12_refuse_36 : decode cX12_refuse 36 = .ok (.invokespecial 85, 3) := by decide +kernel
theorem dX12_refuse_39 : decode cX12_refuse 39 = .ok (.athrow, 1) := by decide +kernel
theorem dX12_refuse_40 : decode cX12_refuse 40 = .ok (.new 100, 3) := by decide +kernel
theorem dX12_refuse_43 : decode cX12_refuse 43 = .ok (.dup, 1) := by decide +kernel
theorem dX12_refuse_44 : decode cX12_refuse 44 = .ok (.invokespecial 102, 3) := by decide +kernel
theorem dX12_refuse_47 : decode cX12_refuse 47 = .ok (.athrow, 1) := by decide +kernel
theorem dX12_refuse_48 : decode cX12_refuse 48 = .ok (.new 116, 3) := by decide +kernel
theorem dX12_refuse_51 : decode cX12_refuse 51 = .ok (.dup, 1) := by decide +kernel
theorem dX12_refuse_52 : decode cX12_refuse 52 = .ok (.invokespecial 118, 3) := by decide +kernel
theorem dX12_refuse_55 : decode cX12_refuse 55 = .ok (.athrow, 1) := by decide +kernel
theorem dX12_refuse_56 : decode cX12_refuse 56 = .ok (.new 209, 3) := by decide +kernel
theorem dX12_refuse_59 : decode cX12_refuse 59 = .ok (.dup, 1) := by decide +kernel
theorem dX12_refuse_60 : decode cX12_refuse 60 = .ok (.invokespecial 211, 3) := by decide +kernel
theorem dX12_refuse_63 : decode cX12_refuse 63 = .ok (.athrow, 1) := by decide +kernel
theorem dX12_refuse_64 : decode cX12_refuse 64 = .ok (.return_, 1) := by decide +kernel
theorem dX12_carryOut_0 : decode cX12_carryOut 0 = .ok (.aload_n 0, 1) := by decide +kernel
theorem dX12_carryOut_1 : decode cX12_carryOut 1 = .ok (.getfield 35, 3) := by decide +kernel
theorem dX12_carryOut_4 : decode cX12_carryOut 4 = .ok (.getfield 379, 3) := by decide +kernel
theorem dX12_carryOut_7 : decode cX12_carryOut 7 = .ok (.astore_n 1, 1) := by decide +kernel
theorem dX12_carryOut_8 : decode cX12_carryOut 8 = .ok (.aload_n 1, 1) := by decide +kernel
theorem dX12_carryOut_9 : decode cX12_carryOut 9 = .ok (.ifnonnull 5, 3) := by decide +kernel
theorem dX12_carryOut_12 : decode cX12_carryOut 12 = .ok (.iconst (-1), 1) := by decide +kernel
theorem dX12_carryOut_13 : decode cX12_carryOut 13 = .ok (.ireturn, 1) := by decide +kernel
theorem dX12_carryOut_14 : decode cX12_carryOut 14 = .ok (.aload_n 0, 1) := by decide +kernel
theorem dX12_carryOut_15 : decode cX12_carryOut 15 = .ok (.getfield 35, 3) := by decide +kernel
theorem dX12_carryOut_18 : decode cX12_carryOut 18 = .ok (.getfield 383, 3) := by decide +kernel
theorem dX12_carryOut_21 : decode cX12_carryOut 21 = .ok (.astore_n 2, 1) := by decide +kernel
theorem dX12_carryOut_22 : decode cX12_carryOut 22 = .ok (.getstatic 386, 3) := by decide +kernel
theorem dX12_carryOut_25 : decode cX12_carryOut 25 = .ok (.aload_n 1, 1) := by decide +kernel
theorem dX12_carryOut_26 : decode cX12_carryOut 26 = .ok (.invokevirtual 391, 3) := by decide +kernel
theorem dX12_carryOut_29 : decode cX12_carryOut 29 = .ok (.iaload, 1) := by decide +kernel
theorem dX12_carryOut_30 : decode cX12_carryOut 30 = .ok (.tableswitch 185 1 9 #[50, 67, 87, 104, 130, 141, 152, 163, 174], 50) := by decide +kernel
theorem dX12_carryOut_80 : decode cX12_carryOut 80 = .ok (.aload_n 0, 1) := by decide +kernel
theorem dX12_carryOut_81 : decode cX12_carryOut 81 = .ok (.getfield 10, 3) := by decide +kernel
theorem dX12_carryOut_84 : decode cX12_carryOut 84 = .ok (.aload_n 2, 1) := by decide +kernel
theorem dX12_carryOut_85 : decode cX12_carryOut 85 = .ok (.iconst 0, 1) := by decide +kernel
theorem dX12_carryOut_86 : decode cX12_carryOut 86 = .ok (.iaload, 1) := by decide +kernel
theorem dX12_carryOut_87 : decode cX12_carryOut 87 = .ok (.aload_n 2, 1) := by decide +kernel
theorem dX12_carryOut_88 : decode cX12_carryOut 88 = .ok (.iconst 1, 1) := by decide +kernel
theorem dX12_carryOut_89 : decode cX12_carryOut 89 = .ok (.iaload, 1) := by decide +kernel
theorem dX12_carryOut_90 : decode cX12_carryOut 90 = .ok (.aload_n 2, 1) := by decide +kernel
theorem dX12_carryOut_91 : decode cX12_carryOut 91 = .ok (.iconst 2, 1) := by decide +kernel
theorem dX12_carryOut_92 : decode cX12_carryOut 92 = .ok (.iaload, 1) := by decide +kernel
theorem dX12_carryOut_93 : decode cX12_carryOut 93 = .ok (.invokevirtual 71, 3) := by decide +kernel
theorem dX12_carryOut_96 : decode cX12_carryOut 96 = .ok (.ireturn, 1) := by decide +kernel
theorem dX12_carryOut_97 : decode cX12_carryOut 97 = .ok (.aload_n 0, 1) := by decide +kernel
theorem dX12_carryOut_98 : decode cX12_carryOut 98 = .ok (.getfield 10, 3) := by decide +kernel
theorem dX12_carryOut_101 : decode cX12_carryOut 101 = .ok (.aload_n 2, 1) := by decide +kernel
theorem dX12_carryOut_102 : decode cX12_carryOut 102 = .ok (.iconst 0, 1) := by decide +kernel
theorem dX12_carryOut_103 : decode cX12_carryOut 103 = .ok (.iaload, 1) := by decide +kernel
theorem dX12_carryOut_104 : decode cX12_carryOut 104 = .ok (.aload_n 2, 1) := by decide +kernel
theorem dX12_carryOut_105 : decode cX12_carryOut 105 = .ok (.iconst 1, 1) := by decide +kernel
theorem dX12_carryOut_106 : decode cX12_carryOut 106 = .ok (.iaload, 1) := by decide +kernel
theorem dX12_carryOut_107 : decode cX12_carryOut 107 = .ok (.aload_n 2, 1) := by decide +kernel
theorem dX12_carryOut_108 : decode cX12_carryOut 108 = .ok (.iconst 2, 1) := by decide +kernel
theorem dX12_carryOut_109 : decode cX12_carryOut 109 = .ok (.iaload, 1) := by decide +kernel
theorem dX12_carryOut_110 : decode cX12_carryOut 110 = .ok (.aload_n 2, 1) := by decide +kernel
theorem dX12_carryOut_111 : decode cX12_carryOut 111 = .ok (.iconst 3, 1) := by decide +kernel
theorem dX12_carryOut_112 : decode cX12_carryOut 112 = .ok (.iaload, 1) := by decide +kernel
theorem dX12_carryOut_113 : decode cX12_carryOut 113 = .ok (.invokevirtual 92, 3) := by decide +kernel
theorem dX12_carryOut_116 : decode cX12_carryOut 116 = .ok (.ireturn, 1) := by decide +kernel
theorem dX12_carryOut_117 : decode cX12_carryOut 117 = .ok (.aload_n 0, 1) := by decide +kernel
theorem dX12_carryOut_118 : decode cX12_carryOut 118 = .ok (.getfield 10, 3) := by decide +kernel
theorem dX12_carryOut_121 : decode cX12_carryOut 121 = .ok (.aload_n 2, 1) := by decide +kernel
theorem dX12_carryOut_122 : decode cX12_carryOut 122 = .ok (.iconst 0, 1) := by decide +kernel
theorem dX12_carryOut_123 : decode cX12_carryOut 123 = .ok (.iaload, 1) := by decide +kernel
theorem dX12_carryOut_124 : decode cX12_carryOut 124 = .ok (.aload_n 2, 1) := by decide +kernel
theorem dX12_carryOut_125 : decode cX12_carryOut 125 = .ok (.iconst 1, 1) := by decide +kernel
theorem dX12_carryOut_126 : decode cX12_carryOut 126 = .ok (.iaload, 1) := by decide +kernel
theorem dX12_carryOut_127 : decode cX12_carryOut 127 = .ok (.aload_n 2, 1) := by decide +kernel
theorem dX12_carryOut_128 : decode cX12_carryOut 128 = .ok (.iconst 2, 1) := by decide +kernel
theorem dX12_carryOut_129 : decode cX12_carryOut 129 = .ok (.iaload, 1) := by decide +kernel
theorem dX12_carryOut_130 : decode cX12_carryOut 130 = .ok (.invokevirtual 133, 3) := by decide +kernel
theorem dX12_carryOut_133 : decode cX12_carryOut 133 = .ok (.ireturn, 1) := by decide +kernel
theorem dX12_carryOut_134 : decode cX12_carryOut 134 = .ok (.aload_n 0, 1) := by decide +kernel
theorem dX12_carryOut_135 : decode cX12_carryOut 135 = .ok (.getfield 10, 3) := by decide +kernel
theorem dX12_carryOut_138 : decode cX12_carryOut 138 = .ok (.aload_n 2, 1) := by decide +kernel
theorem dX12_carryOut_139 : decode cX12_carryOut 139 = .ok (.iconst 0, 1) := by decide +kernel
theorem dX12_carryOut_140 : decode cX12_carryOut 140 = .ok (.iaload, 1) := by decide +kernel
theorem dX12_carryOut_141 : decode cX12_carryOut 141 = .ok (.aload_n 2, 1) := by decide +kernel
theorem dX12_carryOut_142 : decode cX12_carryOut 142 = .ok (.iconst 1, 1) := by decide +kernel
theorem dX12_carryOut_143 : decode cX12_carryOut 143 = .ok (.iaload, 1) := by decide +kernel
theorem dX12_carryOut_144 : decode cX12_carryOut 144 = .ok (.aload_n 2, 1) := by decide +kernel
theorem dX12_carryOut_145 : decode cX12_carryOut 145 = .ok (.iconst 2, 1) := by decide +kernel
theorem dX12_carryOut_146 : decode cX12_carryOut 146 = .ok (.iaload, 1) := by decide +kernel
theorem dX12_carryOut_147 : decode cX12_carryOut 147 = .ok (.aload_n 2, 1) := by decide +kernel
theorem dX12_carryOut_148 : decode cX12_carryOut 148 = .ok (.iconst 3, 1) := by decide +kernel
theorem dX12_carryOut_149 : decode cX12_carryOut 149 = .ok (.iaload, 1) := by decide +kernel
theorem dX12_carryOut_150 : decode cX12_carryOut 150 = .ok (.aload_n 2, 1) := by decide +kernel
theorem dX12_carryOut_151 : decode cX12_carryOut 151 = .ok (.iconst 4, 1) := by decide +kernel
theorem dX12_carryOut_152 : decode cX12_carryOut 152 = .ok (.iaload, 1) := by decide +kernel
theorem dX12_carryOut_153 : decode cX12_carryOut 153 = .ok (.aload_n 2, 1) := by decide +kernel
theorem dX12_carryOut_154 : decode cX12_carryOut 154 = .ok (.iconst 5, 1) := by decide +kernel
theorem dX12_carryOut_155 : decode cX12_carryOut 155 = .ok (.iaload, 1) := by decide +kernel
theorem dX12_carryOut_156 : decode cX12_carryOut 156 = .ok (.invokevirtual 136, 3) := by decide +kernel
theorem dX12_carryOut_159 : decode cX12_carryOut 159 = .ok (.ireturn, 1) := by decide +kernel
theorem dX12_carryOut_160 : decode cX12_carryOut 160 = .ok (.aload_n 0, 1) := by decide +kernel
theorem dX12_carryOut_161 : decode cX12_carryOut 161 = .ok (.getfield 10, 3) := by decide +kernel
theorem dX12_carryOut_164 : decode cX12_carryOut 164 = .ok (.aload_n 2, 1) := by decide +kernel
theorem dX12_carryOut_165 : decode cX12_carryOut 165 = .ok (.iconst 0, 1) := by decide +kernel
theorem dX12_carryOut_166 : decode cX12_carryOut 166 = .ok (.iaload, 1) := by decide +kernel
theorem dX12_carryOut_167 : decode cX12_carryOut 167 = .ok (.invokevirtual 140, 3) := by decide +kernel
theorem dX12_carryOut_170 : decode cX12_carryOut 170 = .ok (.ireturn, 1) := by decide +kernel
theorem dX12_carryOut_171 : decode cX12_carryOut 171 = .ok (.aload_n 0, 1) := by decide +kernel
theorem dX12_carryOut_172 : decode cX12_carryOut 172 = .ok (.getfield 10, 3) := by decide +kernel
theorem dX12_carryOut_175 : decode cX12_carryOut 175 = .ok (.aload_n 2, 1) := by decide +kernel
theorem dX12_carryOut_176 : decode cX12_carryOut 176 = .ok (.iconst 0, 1) := by decide +kernel
theorem dX12_carryOut_177 : decode cX12_carryOut 177 = .ok (.iaload, 1) := by decide +kernel
theorem dX12_carryOut_178 : decode cX12_carryOut 178 = .ok (.invokevirtual 143, 3) := by decide +kernel
theorem dX12_carryOut_181 : decode cX12_carryOut 181 = .ok (.ireturn, 1) := by decide +kernel
theorem dX12_carryOut_182 : decode cX12_carryOut 182 = .ok (.aload_n 0, 1) := by decide +kernel
theorem dX12_carryOut_183 : decode cX12_carryOut 183 = .ok (.getfield 10, 3) := by decide +kernel
theorem dX12_carryOut_186 : decode cX12_carryOut 186 = .ok (.aload_n 2, 1) := by decide +kernel
theorem dX12_carryOut_187 : decode cX12_carryOut 187 = .ok (.iconst 0, 1) := by decide +kernel
theorem dX12_carryOut_188 : decode cX12_carryOut 188 = .ok (.iaload, 1) := by decide +kernel
theorem dX12_carryOut_189 : decode cX12_carryOut 189 = .ok (.invokevirtual 146, 3) := by decide +kernel
theorem dX12_carryOut_192 : decode cX12_carryOut 192 = .ok (.ireturn, 1) := by decide +kernel
theorem dX12_carryOut_193 : decode cX12_carryOut 193 = .ok (.aload_n 0, 1) := by decide +kernel
theorem dX12_carryOut_194 : decode cX12_carryOut 194 = .ok (.getfield 10, 3) := by decide +kernel
theorem dX12_carryOut_197 : decode cX12_carryOut 197 = .ok (.aload_n 2, 1) := by decide +kernel
theorem dX12_carryOut_198 : decode cX12_carryOut 198 = .ok (.iconst 0, 1) := by decide +kernel
theorem dX12_carryOut_199 : decode cX12_carryOut 199 = .ok (.iaload, 1) := by decide +kernel
theorem dX12_carryOut_200 : decode cX12_carryOut 200 = .ok (.invokevirtual 127, 3) := by decide +kernel
theorem dX12_carryOut_203 : decode cX12_carryOut 203 = .ok (.ireturn, 1) := by decide +kernel
theorem dX12_carryOut_204 : decode cX12_carryOut 204 = .ok (.aload_n 0, 1) := by decide +kernel
theorem dX12_carryOut_205 : decode cX12_carryOut 205 = .ok (.getfield 10, 3) := by decide +kernel
theorem dX12_carryOut_208 : decode cX12_carryOut 208 = .ok (.aload_n 2, 1) := by decide +kernel
theorem dX12_carryOut_209 : decode cX12_carryOut 209 = .ok (.iconst 0, 1) := by decide +kernel
theorem dX12_carryOut_210 : decode cX12_carryOut 210 = .ok (.iaload, 1) := by decide +kernel
theorem dX12_carryOut_211 : decode cX12_carryOut 211 = .ok (.invokevirtual 130, 3) := by decide +kernel
theorem dX12_carryOut_214 : decode cX12_carryOut 214 = .ok (.ireturn, 1) := by decide +kernel
theorem dX12_carryOut_215 : decode cX12_carryOut 215 = .ok (.iconst (-1), 1) := by decide +kernel
theorem dX12_carryOut_216 : decode cX12_carryOut 216 = .ok (.ireturn, 1) := by decide +kernel
theorem dX12_placeOf_0 : decode cX12_placeOf 0 = .ok (.sipush 1000, 3) := by decide +kernel
theorem dX12_placeOf_3 : decode cX12_placeOf 3 = .ok (.iload_n 0, 1) := by decide +kernel
theorem dX12_placeOf_4 : decode cX12_placeOf 4 = .ok (.imul, 1) := by decide +kernel
theorem dX12_placeOf_5 : decode cX12_placeOf 5 = .ok (.iload_n 1, 1) := by decide +kernel
theorem dX12_placeOf_6 : decode cX12_placeOf 6 = .ok (.iadd, 1) := by decide +kernel
theorem dX12_placeOf_7 : decode cX12_placeOf 7 = .ok (.ireturn, 1) := by decide +kernel
