theorem dX1_init_0 : decode cX1_init 0 = .ok (.aload_n 0, 1) := by decide +kernel
theorem dX1_init_1 : decode cX1_init 1 = .ok (.invokespecial 1, 3) := by decide +kernel
theorem dX1_init_4 : decode cX1_init 4 = .ok (.aload_n 0, 1) := by decide +kernel
theorem dX1_init_5 : decode cX1_init 5 = .ok (.sipush 20000, 3) := by decide +kernel
theorem dX1_init_8 : decode cX1_init 8 = .ok (.newarray .int, 2) := by decide +kernel
theorem dX1_init_10 : decode cX1_init 10 = .ok (.putfield 9, 3) := by decide +kernel
theorem dX1_init_13 : decode cX1_init 13 = .ok (.return_, 1) := by decide +kernel
theorem dX1_check_0 : decode cX1_check 0 = .ok (.iload_n 0, 1) := by decide +kernel
theorem dX1_check_1 : decode cX1_check 1 = .ok (.ifCond .ne 11, 3) := by decide +kernel
theorem dX1_check_4 : decode cX1_check 4 = .ok (.new 13, 3) := by decide +kernel
theorem dX1_check_7 : decode cX1_check 7 = .ok (.dup, 1) := by decide +kernel
theorem dX1_check_8 : decode cX1_check 8 = .ok (.invokespecial 15, 3) := by decide +kernel
theorem dX1_check_11 : decode cX1_check 11 = .ok (.athrow, 1) := by decide +kernel
theorem dX1_check_12 : decode cX1_check 12 = .ok (.return_, 1) := by decide +kernel
theorem dX1_insert0_0 : decode cX1_insert0 0 = .ok (.iload_n 1, 1) := by decide +kernel
theorem dX1_insert0_1 : decode cX1_insert0 1 = .ok (.ifCond .lt 29, 3) := by decide +kernel
theorem dX1_insert0_4 : decode cX1_insert0 4 = .ok (.iload_n 1, 1) := by decide +kernel
theorem dX1_insert0_5 : decode cX1_insert0 5 = .ok (.aload_n 0, 1) := by decide +kernel
theorem dX1_insert0_6 : decode cX1_insert0 6 = .ok (.getfield 16, 3) := by decide +kernel
theorem dX1_insert0_9 : decode cX1_insert0 9 = .ok (.if_icmp .gt 21, 3) := by decide +kernel
theorem dX1_insert0_12 : decode cX1_insert0 12 = .ok (.iload 4, 2) := by decide +kernel
theorem dX1_insert0_14 : decode cX1_insert0 14 = .ok (.iconst 1, 1) := by decide +kernel
theorem dX1_insert0_15 : decode cX1_insert0 15 = .ok (.if_icmp .lt 15, 3) := by decide +kernel
theorem dX1_insert0_18 : decode cX1_insert0 18 = .ok (.iload 4, 2) := by decide +kernel
theorem dX1_insert0_20 : decode cX1_insert0 20 = .ok (.sipush 500, 3) := by decide +kernel
theorem dX1_insert0_23 : decode cX1_insert0 23 = .ok (.if_icmp .gt 7, 3) := by decide +kernel
theorem dX1_insert0_26 : decode cX1_insert0 26 = .ok (.iconst 1, 1) := by decide +kernel
theorem dX1_insert0_27 : decode cX1_insert0 27 = .ok (.goto 4, 3) := by decide +kernel
theorem dX1_insert0_30 : decode cX1_insert0 30 = .ok (.iconst 0, 1) := by decide +kernel
theorem dX1_insert0_31 : decode cX1_insert0 31 = .ok (.invokestatic 20, 3) := by decide +kernel
theorem dX1_insert0_34 : decode cX1_insert0 34 = .ok (.aload_n 0, 1) := by decide +kernel
theorem dX1_insert0_35 : decode cX1_insert0 35 = .ok (.getfield 16, 3) := by decide +kernel
theorem dX1_insert0_38 : decode cX1_insert0 38 = .ok (.iload 4, 2) := by decide +kernel
theorem dX1_insert0_40 : decode cX1_insert0 40 = .ok (.iadd, 1) := by decide +kernel
theorem dX1_insert0_41 : decode cX1_insert0 41 = .ok (.sipush 20000, 3) := by decide +kernel
theorem dX1_insert0_44 : decode cX1_insert0 44 = .ok (.if_icmp .le 11, 3) := by decide +kernel
theorem dX1_insert0_47 : decode cX1_insert0 47 = .ok (.new 24, 3) := by decide +kernel
theorem dX1_insert0_50 : decode cX1_insert0 50 = .ok (.dup, 1) := by decide +kernel
theorem dX1_insert0_51 : decode cX1_insert0 51 = .ok (.invokespecial 26, 3) := by decide +kernel
theorem dX1_insert0_54 : decode cX1_insert0 54 = .ok (.athrow, 1) := by decide +kernel
theorem dX1_insert0_55 : decode cX1_insert0 55 = .ok (.aload_n 0, 1) := by decide +kernel
theorem dX1_insert0_56 : decode cX1_insert0 56 = .ok (.getfield 16, 3) := by decide +kernel
theorem dX1_insert0_59 : decode cX1_insert0 59 = .ok (.iconst 1, 1) := by decide +kernel
theorem dX1_insert0_60 : decode cX1_insert0 60 = .ok (.isub, 1) := by decide +kernel
theorem dX1_insert0_61 : decode cX1_insert0 61 = .ok (.istore 5, 2) := by decide +kernel
theorem dX1_insert0_63 : decode cX1_insert0 63 = .ok (.iload 5, 2) := by decide +kernel
theorem dX1_insert0_65 : decode cX1_insert0 65 = .ok (.iload_n 1, 1) := by decide +kernel
theorem dX1_insert0_66 : decode cX1_insert0 66 = .ok (.if_icmp .lt 26, 3) := by decide +kernel
theorem dX1_insert0_69 : decode cX1_insert0 69 = .ok (.aload_n 0, 1) := by decide +kernel
theorem dX1_insert0_70 : decode cX1_insert0 70 = .ok (.getfield 9, 3) := by decide +kernel
theorem dX1_insert0_73 : decode cX1_insert0 73 = .ok (.iload 5, 2) := by decide +kernel
theorem dX1_insert0_75 : decode cX1_insert0 75 = .ok (.iload 4, 2) := by decide +kernel
theorem dX1_insert0_77 : decode cX1_insert0 77 = .ok (.iadd, 1) := by decide +kernel
theorem dX1_insert0_78 : decode cX1_insert0 78 = .ok (.aload_n 0, 1) := by decide +kernel
theorem dX1_insert0_79 : decode cX1_insert0 79 = .ok (.getfield 9, 3) := by decide +kernel
theorem dX1_insert0_82 : decode cX1_insert0 82 = .ok (.iload 5, 2) := by decide +kernel
theorem dX1_insert0_84 : decode cX1_insert0 84 = .ok (.iaload, 1) := by decide +kernel
theorem dX1_insert0_85 : decode cX1_insert0 85 = .ok (.iastore, 1) := by decide +kernel
theorem dX1_insert0_86 : decode cX1_insert0 86 = .ok (.iinc 5 (-1), 3) := by decide +kernel
theorem dX1_insert0_89 : decode cX1_insert0 89 = .ok (.goto (-26), 3) := by decide +kernel
theorem dX1_insert0_92 : decode cX1_insert0 92 = .ok (.iconst 0, 1) := by decide +kernel
theorem dX1_insert0_93 : decode cX1_insert0 93 = .ok (.istore 5, 2) := by decide +kernel
theorem dX1_insert0_95 : decode cX1_insert0 95 = .ok (.iload 5, 2) := by decide +kernel
theorem dX1_insert0_97 : decode cX1_insert0 97 = .ok (.iload 4, 2) := by decide +kernel
theorem dX1_insert0_99 : decode cX1_insert0 99 = .ok (.if_icmp .ge 24, 3) := by decide +kernel
theorem dX1_insert0_102 : decode cX1_insert0 102 = .ok (.aload_n 0, 1) := by decide +kernel
theorem dX1_insert0_103 : decode cX1_insert0 103 = .ok (.getfield 9, 3) := by decide +kernel
theorem dX1_insert0_106 : decode cX1_insert0 106 = .ok (.iload_n 1, 1) := by decide +kernel
theorem dX1_insert0_107 : decode cX1_insert0 107 = .ok (.iload 5, 2) := by decide +kernel
theorem dX1_insert0_109 : decode cX1_insert0 109 = .ok (.iadd, 1) := by decide +kernel
theorem dX1_insert0_110 : decode cX1_insert0 110 = .ok (.iload_n 2, 1) := by decide +kernel
theorem dX1_insert0_111 : decode cX1_insert0 111 = .ok (.iload 5, 2) := by decide +kernel
theorem dX1_insert0_113 : decode cX1_insert0 113 = .ok (.iload_n 3, 1) := by decide +kernel
theorem dX1_insert0_114 : decode cX1_insert0 114 = .ok (.imul, 1) := by decide +kernel
theorem dX1_insert0_115 : decode cX1_insert0 115 = .ok (.iadd, 1) := by decide +kernel
theorem dX1_insert0_116 : decode cX1_insert0 116 = .ok (.iastore, 1) := by decide +kernel
theorem dX1_insert0_117 : decode cX1_insert0 117 = .ok (.iinc 5 1, 3) := by decide +kernel
theorem dX1_insert0_120 : decode cX1_insert0 120 = .ok (.goto (-25), 3) := by decide +kernel
theorem dX1_insert0_123 : decode cX1_insert0 123 = .ok (.aload_n 0, 1) := by decide +kernel
theorem dX1_insert0_124 : decode cX1_insert0 124 = .ok (.dup, 1) := by decide +kernel
theorem dX1_insert0_125 : decode cX1_insert0 125 = .ok (.getfield 16, 3) := by decide +kernel
theorem dX1_insert0_128 : decode cX1_insert0 128 = .ok (.iload 4, 2) := by decide +kernel
theorem dX1_insert0_130 : decode cX1_insert0 130 = .ok (.iadd, 1) := by decide +kernel
theorem dX1_insert0_131 : decode cX1_insert0 131 = .ok (.putfield 16, 3) := by decide +kernel
theorem dX1_insert0_134 : decode cX1_insert0 134 = .ok (.aload_n 0, 1) := by decide +kernel
theorem dX1_insert0_135 : decode cX1_insert0 135 = .ok (.getfield 16, 3) := by decide +kernel
theorem dX1_insert0_138 : decode cX1_insert0 138 = .ok (.ireturn, 1) := by decide +kernel
theorem dX1_delete0_0 : decode cX1_delete0 0 = .ok (.iload_n 1, 1) := by decide +kernel
theorem dX1_delete0_1 : decode cX1_delete0 1 = .ok (.ifCond .lt 30, 3) := by decide +kernel
theorem dX1_delete0_4 : decode cX1_delete0 4 = .ok (.iload_n 2, 1) := by decide +kernel
theorem dX1_delete0_5 : decode cX1_delete0 5 = .ok (.iconst 1, 1) := by decide +kernel
theorem dX1_delete0_6 : decode cX1_delete0 6 = .ok (.if_icmp .lt 25, 3) := by decide +kernel
theorem dX1_delete0_9 : decode cX1_delete0 9 = .ok (.iload_n 2, 1) := by decide +kernel
theorem dX1_delete0_10 : decode cX1_delete0 10 = .ok (.aload_n 0, 1) := by decide +kernel
theorem dX1_delete0_11 : decode cX1_delete0 11 = .ok (.getfield 16, 3) := by decide +kernel
theorem dX1_delete0_14 : decode cX1_delete0 14 = .ok (.if_icmp .gt 17, 3) := by decide +kernel
theorem dX1_delete0_17 : decode cX1_delete0 17 = .ok (.iload_n 1, 1) := by decide +kernel
theorem dX1_delete0_18 : decode cX1_delete0 18 = .ok (.aload_n 0, 1) := by decide +kernel
theorem dX1_delete0_19 : decode cX1_delete0 19 = .ok (.getfield 16, 3) := by decide +kernel
theorem dX1_delete0_22 : decode cX1_delete0 22 = .ok (.iload_n 2, 1) := by decide +kernel
theorem dX1_delete0_23 : decode cX1_delete0 23 = .ok (.isub, 1) := by decide +kernel
theorem dX1_delete0_24 : decode cX1_delete0 24 = .ok (.if_icmp .gt 7, 3) := by decide +kernel
theorem dX1_delete0_27 : decode cX1_delete0 27 = .ok (.iconst 1, 1) := by decide +kernel
theorem dX1_delete0_28 : decode cX1_delete0 28 = .ok (.goto 4, 3) := by decide +kernel
theorem dX1_delete0_31 : decode cX1_delete0 31 = .ok (.iconst 0, 1) := by decide +kernel
theorem dX1_delete0_32 : decode cX1_delete0 32 = .ok (.invokestatic 20, 3) := by decide +kernel
theorem dX1_delete0_35 : decode cX1_delete0 35 = .ok (.iload_n 1, 1) := by decide +kernel
theorem dX1_delete0_36 : decode cX1_delete0 36 = .ok (.iload_n 2, 1) := by decide +kernel
theorem dX1_delete0_37 : decode cX1_delete0 37 = .ok (.iadd, 1) := by decide +kernel
theorem dX1_delete0_38 : decode cX1_delete0 38 = .ok (.istore_n 3, 1) := by decide +kernel
theorem dX1_delete0_39 : decode cX1_delete0 39 = .ok (.iload_n 3, 1) := by decide +kernel
theorem dX1_delete0_40 : decode cX1_delete0 40 = .ok (.aload_n 0, 1) := by decide +kernel
theorem dX1_delete0_41 : decode cX1_delete0 41 = .ok (.getfield 16, 3) := by decide +kernel
theorem dX1_delete0_44 : decode cX1_delete0 44 = .ok (.if_icmp .ge 23, 3) := by decide +kernel
theorem dX1_delete0_47 : decode cX1_delete0 47 = .ok (.aload_n 0, 1) := by decide +kernel
theorem dX1_delete0_48 : decode cX1_delete0 48 = .ok (.getfield 9, 3) := by decide +kernel
theorem dX1_delete0_51 : decode cX1_delete0 51 = .ok (.iload_n 3, 1) := by decide +kernel
theorem dX1_delete0_52 : decode cX1_delete0 52 = .ok (.iload_n 2, 1) := by decide +kernel
theorem dX1_delete0_53 : decode cX1_delete0 53 = .ok (.isub, 1) := by decide +kernel
theorem dX1_delete0_54 : decode cX1_delete0 54 = .ok (.aload_n 0, 1) := by decide +kernel
theorem dX1_delete0_55 : decode cX1_delete0 55 = .ok (.getfield 9, 3) := by decide +kernel
theorem dX1_delete0_58 : decode cX1_delete0 58 = .ok (.iload_n 3, 1) := by decide +kernel
theorem dX1_delete0_59 : decode cX1_delete0 59 = .ok (.iaload, 1) := by decide +kernel
theorem dX1_delete0_60 : decode cX1_delete0 60 = .ok (.iastore, 1) := by decide +kernel
theorem dX1_delete0_61 : decode cX1_delete0 61 = .ok (.iinc 3 1, 3) := by decide +kernel
theorem dX1_delete0_64 : decode cX1_delete0 64 = .ok (.goto (-25), 3) := by decide +kernel
theorem dX1_delete0_67 : decode cX1_delete0 67 = .ok (.aload_n 0, 1) := by decide +kernel
theorem dX1_delete0_68 : decode cX1_delete0 68 = .ok (.dup, 1) := by decide +kernel
theorem dX1_delete0_69 : decode cX1_delete0 69 = .ok (.getfield 16, 3) := by decide +kernel
theorem dX1_delete0_72 : decode cX1_delete0 72 = .ok (.iload_n 2, 1) := by decide +kernel
theorem dX1_delete0_73 : decode cX1_delete0 73 = .ok (.isub, 1) := by decide +kernel
theorem dX1_delete0_74 : decode cX1_delete0 74 = .ok (.putfield 16, 3) := by decide +kernel
theorem dX1_delete0_77 : decode cX1_delete0 77 = .ok (.aload_n 0, 1) := by decide +kernel
theorem dX1_delete0_78 : decode cX1_delete0 78 = .ok (.getfield 16, 3) := by decide +kernel
theorem dX1_delete0_81 : decode cX1_delete0 81 = .ok (.ireturn, 1) := by decide +kernel
theorem dX1_get0_0 : decode cX1_get0 0 = .ok (.iload_n 1, 1) := by decide +kernel
theorem dX1_get0_1 : decode cX1_get0 1 = .ok (.ifCond .lt 11, 3) := by decide +kernel
theorem dX1_get0_4 : decode cX1_get0 4 = .ok (.iload_n 1, 1) := by decide +kernel
theorem dX1_get0_5 : decode cX1_get0 5 = .ok (.aload_n 0, 1) := by decide +kernel
theorem dX1_get0_6 : decode cX1_get0 6 = .ok (.getfield 16, 3) := by decide +kernel
theorem dX1_get0_9 : decode cX1_get0 9 = .ok (.if_icmp .lt 11, 3) := by decide +kernel
theorem dX1_get0_12 : decode cX1_get0 12 = .ok (.new 27, 3) := by decide +kernel
theorem dX1_get0_15 : decode cX1_get0 15 = .ok (.dup, 1) := by decide +kernel
theorem dX1_get0_16 : decode cX1_get0 16 = .ok (.invokespecial 29, 3) := by decide +kernel
theorem dX1_get0_19 : decode cX1_get0 19 = .ok (.athrow, 1) := by decide +kernel
theorem dX1_get0_20 : decode cX1_get0 20 = .ok (.aload_n 0, 1) := by decide +kernel
theorem dX1_get0_21 : decode cX1_get0 21 = .ok (.getfield 9, 3) := by decide +kernel
theorem dX1_get0_24 : decode cX1_get0 24 = .ok (.iload_n 1, 1) := by decide +kernel
theorem dX1_get0_25 : decode cX1_get0 25 = .ok (.iaload, 1) := by decide +kernel
theorem dX1_get0_26 : decode cX1_get0 26 = .ok (.ireturn, 1) := by decide +kernel
theorem dX1_length0_0 : decode cX1_length0 0 = .ok (.aload_n 0, 1) := by decide +kernel
theorem dX1_length0_1 : decode cX1_length0 1 = .ok (.getfield 16, 3) := by decide +kernel
theorem dX1_length0_4 : decode cX1_length0 4 = .ok (.ireturn, 1) := by decide +kernel
theorem dX1_endsBefore_0 : decode cX1_endsBefore 0 = .ok (.iconst 0, 1) := by decide +kernel
theorem dX1_endsBefore_1 : decode cX1_endsBefore 1 = .ok (.istore_n 2, 1) := by decide +kernel
theorem dX1_endsBefore_2 : decode cX1_endsBefore 2 = .ok (.iconst 0, 1) := by decide +kernel
theorem dX1_endsBefore_3 : decode cX1_endsBefore 3 = .ok (.istore_n 3, 1) := by decide +kernel
theorem dX1_endsBefore_4 : decode cX1_endsBefore 4 = .ok (.iload_n 3, 1) := by decide +kernel
theorem dX1_endsBefore_5 : decode cX1_endsBefore 5 = .ok (.iload_n 1, 1) := by decide +kernel
theorem dX1_endsBefore_6 : decode cX1_endsBefore 6 = .ok (.if_icmp .ge 23, 3) := by decide +kernel
theorem dX1_endsBefore_9 : decode cX1_endsBefore 9 = .ok (.aload_n 0, 1) := by decide +kernel
theorem dX1_endsBefore_10 : decode cX1_endsBefore 10 = .ok (.getfield 9, 3) := by decide +kernel
theorem dX1_endsBefore_13 : decode cX1_endsBefore 13 = .ok (.iload_n 3, 1) := by decide +kernel
theorem dX1_endsBefore_14 : decode cX1_endsBefore 14 = .ok (.iaload, 1) := by decide +kernel
theorem dX1_endsBefore_15 : decode cX1_endsBefore 15 = .ok (.bipush 10, 2) := by decide +kernel
theorem dX1_endsBefore_17 : decode cX1_endsBefore 17 = .ok (.if_icmp .ne 6, 3) := by decide +kernel
theorem dX1_endsBefore_20 : decode cX1_endsBefore 20 = .ok (.iinc 2 1, 3) := by decide +kernel
theorem dX1_endsBefore_23 : decode cX1_endsBefore 23 = .ok (.iinc 3 1, 3) := by decide +kernel
theorem dX1_endsBefore_26 : decode cX1_endsBefore 26 = .ok (.goto (-22), 3) := by decide +kernel
theorem dX1_endsBefore_29 : decode cX1_endsBefore 29 = .ok (.iload_n 2, 1) := by decide +kernel
theorem dX1_endsBefore_30 : decode cX1_endsBefore 30 = .ok (.ireturn, 1) := by decide +kernel
theorem dX1_lines0_0 : decode cX1_lines0 0 = .ok (.aload_n 0, 1) := by decide +kernel
theorem dX1_lines0_1 : decode cX1_lines0 1 = .ok (.aload_n 0, 1) := by decide +kernel
theorem dX1_lines0_2 : decode cX1_lines0 2 = .ok (.getfield 16, 3) := by decide +kernel
theorem dX1_lines0_5 : decode cX1_lines0 5 = .ok (.invokevirtual 30, 3) := by decide +kernel
theorem dX1_lines0_8 : decode cX1_lines0 8 = .ok (.iconst 1, 1) := by decide +kernel
theorem dX1_lines0_9 : decode cX1_lines0 9 = .ok (.iadd, 1) := by decide +kernel
theorem dX1_lines0_10 : decode cX1_lines0 10 = .ok (.ireturn, 1) := by decide +kernel
theorem dX1_line0_0 : decode cX1_line0 0 = .ok (.iload_n 1, 1) := by decide +kernel
theorem dX1_line0_1 : decode cX1_line0 1 = .ok (.ifCond .lt 15, 3) := by decide +kernel
theorem dX1_line0_4 : decode cX1_line0 4 = .ok (.iload_n 1, 1) := by decide +kernel
theorem dX1_line0_5 : decode cX1_line0 5 = .ok (.aload_n 0, 1) := by decide +kernel
theorem dX1_line0_6 : decode cX1_line0 6 = .ok (.aload_n 0, 1) := by decide +kernel
theorem dX1_line0_7 : decode cX1_line0 7 = .ok (.getfield 16, 3) := by decide +kernel
theorem dX1_line0_10 : decode cX1_line0 10 = .ok (.invokevirtual 30, 3) := by decide +kernel
theorem dX1_line0_13 : decode cX1_line0 13 = .ok (.if_icmp .le 11, 3) := by decide +kernel
theorem dX1_line0_16 : decode cX1_line0 16 = .ok (.new 27, 3) := by decide +kernel
theorem dX1_line0_19 : decode cX1_line0 19 = .ok (.dup, 1) := by decide +kernel
theorem dX1_line0_20 : decode cX1_line0 20 = .ok (.invokespecial 29, 3) := by decide +kernel
theorem dX1_line0_23 : decode cX1_line0 23 = .ok (.athrow, 1) := by decide +kernel
theorem dX1_line0_24 : decode cX1_line0 24 = .ok (.iconst 0, 1) := by decide +kernel
theorem dX1_line0_25 : decode cX1_line0 25 = .ok (.istore_n 2, 1) := by decide +kernel
theorem dX1_line0_26 : decode cX1_line0 26 = .ok (.aload_n 0, 1) := by decide +kernel
theorem dX1_line0_27 : decode cX1_line0 27 = .ok (.iload_n 2, 1) := by decide +kernel
theorem dX1_line0_28 : decode cX1_line0 28 = .ok (.invokevirtual 30, 3) := by decide +kernel
theorem dX1_line0_31 : decode cX1_line0 31 = .ok (.iload_n 1, 1) := by decide +kernel
theorem dX1_line0_32 : decode cX1_line0 32 = .ok (.if_icmp .ge 9, 3) := by decide +kernel
theorem dX1_line0_35 : decode cX1_line0 35 = .ok (.iinc 2 1, 3) := by decide +kernel
theorem dX1_line0_38 : decode cX1_line0 38 = .ok (.goto (-12), 3) := by decide +kernel
theorem dX1_line0_41 : decode cX1_line0 41 = .ok (.iload_n 2, 1) := by decide +kernel
theorem dX1_line0_42 : decode cX1_line0 42 = .ok (.ireturn, 1) := by decide +kernel
theorem dX1_lineOf0_0 : decode cX1_lineOf0 0 = .ok (.iload_n 1, 1) := by decide +kernel
theorem dX1_lineOf0_1 : decode cX1_lineOf0 1 = .ok (.ifCond .lt 15, 3) := by decide +kernel
theorem dX1_lineOf0_4 : decode cX1_lineOf0 4 = .ok (.iload_n 1, 1) := by decide +kernel
theorem dX1_lineOf0_5 : decode cX1_lineOf0 5 = .ok (.aload_n 0, 1) := by decide +kernel
theorem dX1_lineOf0_6 : decode cX1_lineOf0 6 = .ok (.getfield 16, 3) := by decide +kernel
theorem dX1_lineOf0_9 : decode cX1_lineOf0 9 = .ok (.if_icmp .gt 7, 3) := by decide +kernel
theorem dX1_lineOf0_12 : decode cX1_lineOf0 12 = .ok (.iconst 1, 1) := by decide +kernel
theorem dX1_lineOf0_13 : decode cX1_lineOf0 13 = .ok (.goto 4, 3) := by decide +kernel
theorem dX1_lineOf0_16 : decode cX1_lineOf0 16 = .ok (.iconst 0, 1) := by decide +kernel
theorem dX1_lineOf0_17 : decode cX1_lineOf0 17 = .ok (.invokestatic 20, 3) := by decide +kernel
theorem dX1_lineOf0_20 : decode cX1_lineOf0 20 = .ok (.aload_n 0, 1) := by decide +kernel
theorem dX1_lineOf0_21 : decode cX1_lineOf0 21 = .ok (.iload_n 1, 1) := by decide +kernel
theorem dX1_lineOf0_22 : decode cX1_lineOf0 22 = .ok (.invokevirtual 30, 3) := by decide +kernel
theorem dX1_lineOf0_25 : decode cX1_lineOf0 25 = .ok (.ireturn, 1) := by decide +kernel
theorem dX1_digest0_0 : decode cX1_digest0 0 = .ok (.iconst 0, 1) := by decide +kernel
theorem dX1_digest0_1 : decode cX1_digest0 1 = .ok (.istore_n 1, 1) := by decide +kernel
theorem dX1_digest0_2 : decode cX1_digest0 2 = .ok (.iconst 0, 1) := by decide +kernel
theorem dX1_digest0_3 : decode cX1_digest0 3 = .ok (.istore_n 2, 1) := by decide +kernel
theorem dX1_digest0_4 : decode cX1_digest0 4 = .ok (.iload_n 2, 1) := by decide +kernel
theorem dX1_digest0_5 : decode cX1_digest0 5 = .ok (.aload_n 0, 1) := by decide +kernel
theorem dX1_digest0_6 : decode cX1_digest0 6 = .ok (.getfield 16, 3) := by decide +kernel
theorem dX1_digest0_9 : decode cX1_digest0 9 = .ok (.if_icmp .ge 22, 3) := by decide +kernel
theorem dX1_digest0_12 : decode cX1_digest0 12 = .ok (.iload_n 1, 1) := by decide +kernel
theorem dX1_digest0_13 : decode cX1_digest0 13 = .ok (.aload_n 0, 1) := by decide +kernel
theorem dX1_digest0_14 : decode cX1_digest0 14 = .ok (.getfield 9, 3) := by decide +kernel
theorem dX1_digest0_17 : decode cX1_digest0 17 = .ok (.iload_n 2, 1) := by decide +kernel
theorem dX1_digest0_18 : decode cX1_digest0 18 = .ok (.iaload, 1) := by decide +kernel
theorem dX1_digest0_19 : decode cX1_digest0 19 = .ok (.iload_n 2, 1) := by decide +kernel
theorem dX1_digest0_20 : decode cX1_digest0 20 = .ok (.iconst 1, 1) := by decide +kernel
theorem dX1_digest0_21 : decode cX1_digest0 21 = .ok (.iadd, 1) := by decide +kernel
theorem dX1_digest0_22 : decode cX1_digest0 22 = .ok (.imul, 1) := by decide +kernel
theorem dX1_digest0_23 : decode cX1_digest0 23 = .ok (.iadd, 1) := by decide +kernel
theorem dX1_digest0_24 : decode cX1_digest0 24 = .ok (.istore_n 1, 1) := by decide +kernel
theorem dX1_digest0_25 : decode cX1_digest0 25 = .ok (.iinc 2 1, 3) := by decide +kernel
theorem dX1_digest0_28 : decode cX1_digest0 28 = .ok (.goto (-24), 3) := by decide +kernel
theorem dX1_digest0_31 : decode cX1_digest0 31 = .ok (.iload_n 1, 1) := by decide +kernel
theorem dX1_digest0_32 : decode cX1_digest0 32 = .ok (.ireturn, 1) := by decide +kernel
theorem dX1_thrown_0 : decode cX1_thrown 0 = .ok (.aload_n 0, 1) := by decide +kernel
theorem dX1_thrown_1 : decode cX1_thrown 1 = .ok (.getfield 34, 3) := by decide +kernel
theorem dX1_thrown_4 : decode cX1_thrown 4 = .ok (.ireturn, 1) := by decide +kernel
theorem dX1_insert_0 : decode cX1_insert 0 = .ok (.aload_n 0, 1) := by decide +kernel
theorem dX1_insert_1 : decode cX1_insert 1 = .ok (.iconst 0, 1) := by decide +kernel
theorem dX1_insert_2 : decode cX1_insert 2 = .ok (.putfield 34, 3) := by decide +kernel
theorem dX1_insert_5 : decode cX1_insert 5 = .ok (.aload_n 0, 1) := by decide +kernel
theorem dX1_insert_6 : decode cX1_insert 6 = .ok (.iload_n 1, 1) := by decide +kernel
theorem dX1_insert_7 : decode cX1_insert 7 = .ok (.iload_n 2, 1) := by decide +kernel
theorem dX1_insert_8 : decode cX1_insert 8 = .ok (.iload_n 3, 1) := by decide +kernel
theorem dX1_insert_9 : decode cX1_insert 9 = .ok (.iload 4, 2) := by decide +kernel
theorem dX1_insert_11 : decode cX1_insert 11 = .ok (.invokevirtual 37, 3) := by decide +kernel
theorem dX1_insert_14 : decode cX1_insert 14 = .ok (.ireturn, 1) := by decide +kernel
theorem dX1_insert_15 : decode cX1_insert 15 = .ok (.astore 5, 2) := by decide +kernel
theorem dX1_insert_17 : decode cX1_insert 17 = .ok (.aload_n 0, 1) := by decide +kernel
theorem dX1_insert_18 : decode cX1_insert 18 = .ok (.iconst 1, 1) := by decide +kernel
theorem dX1_insert_19 : decode cX1_insert 19 = .ok (.putfield 34, 3) := by decide +kernel
theorem dX1_insert_22 : decode cX1_insert 22 = .ok (.goto 10, 3) := by decide +kernel
theorem dX1_insert_25 : decode cX1_insert 25 = .ok (.astore 5, 2) := by decide +kernel
theorem dX1_insert_27 : decode cX1_insert 27 = .ok (.aload_n 0, 1) := by decide +kernel
theorem dX1_insert_28 : decode cX1_insert 28 = .ok (.iconst 2, 1) := by decide +kernel
theorem dX1_insert_29 : decode cX1_insert 29 = .ok (.putfield 34, 3) := by decide +kernel
theorem dX1_insert_32 : decode cX1_insert 32 = .ok (.iconst 0, 1) := by decide +kernel
theorem dX1_insert_33 : decode cX1_insert 33 = .ok (.ireturn, 1) := by decide +kernel
theorem dX1_delete_0 : decode cX1_delete 0 = .ok (.aload_n 0, 1) := by decide +kernel
theorem dX1_delete_1 : decode cX1_delete 1 = .ok (.iconst 0, 1) := by decide +kernel
theorem dX1_delete_2 : decode cX1_delete 2 = .ok (.putfield 34, 3) := by decide +kernel
theorem dX1_delete_5 : decode cX1_delete 5 = .ok (.aload_n 0, 1) := by decide +kernel
theorem dX1_delete_6 : decode cX1_delete 6 = .ok (.iload_n 1, 1) := by decide +kernel
theorem dX1_delete_7 : decode cX1_delete 7 = .ok (.iload_n 2, 1) := by decide +kernel
theorem dX1_delete_8 : decode cX1_delete 8 = .ok (.invokevirtual 41, 3) := by decide +kernel
theorem dX1_delete_11 : decode cX1_delete 11 = .ok (.ireturn, 1) := by decide +kernel
theorem dX1_delete_12 : decode cX1_delete 12 = .ok (.astore_n 3, 1) := by decide +kernel
theorem dX1_delete_13 : decode cX1_delete 13 = .ok (.aload_n 0, 1) := by decide +kernel
theorem dX1_delete_14 : decode cX1_delete 14 = .ok (.iconst 1, 1) := by decide +kernel
theorem dX1_delete_15 : decode cX1_delete 15 = .ok (.putfield 34, 3) := by decide +kernel
theorem dX1_delete_18 : decode cX1_delete 18 = .ok (.iconst 0, 1) := by decide +kernel
theorem dX1_delete_19 : decode cX1_delete 19 = .ok (.ireturn, 1) := by decide +kernel
theorem dX1_get_0 : decode cX1_get 0 = .ok (.aload_n 0, 1) := by decide +kernel
theorem dX1_get_1 : decode cX1_get 1 = .ok (.iconst 0, 1) := by decide +kernel
theorem dX1_get_2 : decode cX1_get 2 = .ok (.putfield 34, 3) := by decide +kernel
theorem dX1_get_5 : decode cX1_get 5 = .ok (.aload_n 0, 1) := by decide +kernel
theorem dX1_get_6 : decode cX1_get 6 = .ok (.iload_n 1, 1) := by decide +kernel
theorem dX1_get_7 : decode cX1_get 7 = .ok (.invokevirtual 45, 3) := by decide +kernel
theorem dX1_get_10 : decode cX1_get 10 = .ok (.ireturn, 1) := by decide +kernel
theorem dX1_get_11 : decode cX1_get 11 = .ok (.astore_n 2, 1) := by decide +kernel
theorem dX1_get_12 : decode cX1_get 12 = .ok (.aload_n 0, 1) := by decide +kernel
theorem dX1_get_13 : decode cX1_get 13 = .ok (.iconst 1, 1) := by decide +kernel
theorem dX1_get_14 : decode cX1_get 14 = .ok (.putfield 34, 3) := by decide +kernel
theorem dX1_get_17 : decode cX1_get 17 = .ok (.iconst 0, 1) := by decide +kernel
theorem dX1_get_18 : decode cX1_get 18 = .ok (.ireturn, 1) := by decide +kernel
theorem dX1_length_0 : decode cX1_length 0 = .ok (.aload_n 0, 1) := by decide +kernel
theorem dX1_length_1 : decode cX1_length 1 = .ok (.iconst 0, 1) := by decide +kernel
theorem dX1_length_2 : decode cX1_length 2 = .ok (.putfield 34, 3) := by decide +kernel
theorem dX1_length_5 : decode cX1_length 5 = .ok (.aload_n 0, 1) := by decide +kernel
theorem dX1_length_6 : decode cX1_length 6 = .ok (.invokevirtual 48, 3) := by decide +kernel
theorem dX1_length_9 : decode cX1_length 9 = .ok (.ireturn, 1) := by decide +kernel
theorem dX1_lines_0 : decode cX1_lines 0 = .ok (.aload_n 0, 1) := by decide +kernel
theorem dX1_lines_1 : decode cX1_lines 1 = .ok (.iconst 0, 1) := by decide +kernel
theorem dX1_lines_2 : decode cX1_lines 2 = .ok (.putfield 34, 3) := by decide +kernel
theorem dX1_lines_5 : decode cX1_lines 5 = .ok (.aload_n 0, 1) := by decide +kernel
theorem dX1_lines_6 : decode cX1_lines 6 = .ok (.invokevirtual 52, 3) := by decide +kernel
theorem dX1_lines_9 : decode cX1_lines 9 = .ok (.ireturn, 1) := by decide +kernel
theorem dX1_line_0 : decode cX1_line 0 = .ok (.aload_n 0, 1) := by decide +kernel
theorem dX1_line_1 : decode cX1_line 1 = .ok (.iconst 0, 1) := by decide +kernel
theorem dX1_line_2 : decode cX1_line 2 = .ok (.putfield 34, 3) := by decide +kernel
theorem dX1_line_5 : decode cX1_line 5 = .ok (.aload_n 0, 1) := by decide +kernel
theorem dX1_line_6 : decode cX1_line 6 = .ok (.iload_n 1, 1) := by decide +kernel
theorem dX1_line_7 : decode cX1_line 7 = .ok (.invokevirtual 55, 3) := by decide +kernel
theorem dX1_line_10 : decode cX1_line 10 = .ok (.ireturn, 1) := by decide +kernel
theorem dX1_line_11 : decode cX1_line 11 = .ok (.astore_n 2, 1) := by decide +kernel
theorem dX1_line_12 : decode cX1_line 12 = .ok (.aload_n 0, 1) := by decide +kernel
theorem dX1_line_13 : decode cX1_line 13 = .ok (.iconst 1, 1) := by decide +kernel
theorem dX1_line_14 : decode cX1_line 14 = .ok (.putfield 34, 3) := by decide +kernel
theorem dX1_line_17 : decode cX1_line 17 = .ok (.iconst 0, 1) := by decide +kernel
theorem dX1_line_18 : decode cX1_line 18 = .ok (.ireturn, 1) := by decide +kernel
theorem dX1_lineOf_0 : decode cX1_lineOf 0 = .ok (.aload_n 0, 1) := by decide +kernel
theorem dX1_lineOf_1 : decode cX1_lineOf 1 = .ok (.iconst 0, 1) := by decide +kernel
theorem dX1_lineOf_2 : decode cX1_lineOf 2 = .ok (.putfield 34, 3) := by decide +kernel
theorem dX1_lineOf_5 : decode cX1_lineOf 5 = .ok (.aload_n 0, 1) := by decide +kernel
theorem dX1_lineOf_6 : decode cX1_lineOf 6 = .ok (.iload_n 1, 1) := by decide +kernel
theorem dX1_lineOf_7 : decode cX1_lineOf 7 = .ok (.invokevirtual 58, 3) := by decide +kernel
theorem dX1_lineOf_10 : decode cX1_lineOf 10 = .ok (.ireturn, 1) := by decide +kernel
theorem dX1_lineOf_11 : decode cX1_lineOf 11 = .ok (.astore_n 2, 1) := by decide +kernel
theorem dX1_lineOf_12 : decode cX1_lineOf 12 = .ok (.aload_n 0, 1) := by decide +kernel
theorem dX1_lineOf_13 : decode cX1_lineOf 13 = .ok (.iconst 1, 1) := by decide +kernel
theorem dX1_lineOf_14 : decode cX1_lineOf 14 = .ok (.putfield 34, 3) := by decide +kernel
theorem dX1_lineOf_17 : decode cX1_lineOf 17 = .ok (.iconst 0, 1) := by decide +kernel
theorem dX1_lineOf_18 : decode cX1_lineOf 18 = .ok (.ireturn, 1) := by decide +kernel
theorem dX1_digest_0 : decode cX1_digest 0 = .ok (.aload_n 0, 1) := by decide +kernel
theorem dX1_digest_1 : decode cX1_digest 1 = .ok (.iconst 0, 1) := by decide +kernel
theorem dX1_digest_2 : decode cX1_digest 2 = .ok (.putfield 34, 3) := by decide +kernel
theorem dX1_digest_5 : decode cX1_digest 5 = .ok (.aload_n 0, 1) := by decide +kernel
theorem dX1_digest_6 : decode cX1_digest 6 = .ok (.invokevirtual 61, 3) := by decide +kernel
theorem dX1_digest_9 : decode cX1_digest 9 = .ok (.ireturn, 1) := by decide +kernel
