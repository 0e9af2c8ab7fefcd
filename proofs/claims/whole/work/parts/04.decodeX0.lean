theorem dX0_init_0 : decode cX0_init 0 = .ok (.aload_n 0, 1) := by decide +kernel
theorem dX0_init_1 : decode cX0_init 1 = .ok (.invokespecial 1, 3) := by decide +kernel
theorem dX0_init_4 : decode cX0_init 4 = .ok (.aload_n 0, 1) := by decide +kernel
theorem dX0_init_5 : decode cX0_init 5 = .ok (.sipush 512, 3) := by decide +kernel
theorem dX0_init_8 : decode cX0_init 8 = .ok (.newarray .int, 2) := by decide +kernel
theorem dX0_init_10 : decode cX0_init 10 = .ok (.putfield 9, 3) := by decide +kernel
theorem dX0_init_13 : decode cX0_init 13 = .ok (.aload_n 0, 1) := by decide +kernel
theorem dX0_init_14 : decode cX0_init 14 = .ok (.iconst 0, 1) := by decide +kernel
theorem dX0_init_15 : decode cX0_init 15 = .ok (.putfield 13, 3) := by decide +kernel
theorem dX0_init_18 : decode cX0_init 18 = .ok (.aload_n 0, 1) := by decide +kernel
theorem dX0_init_19 : decode cX0_init 19 = .ok (.iconst 0, 1) := by decide +kernel
theorem dX0_init_20 : decode cX0_init 20 = .ok (.putfield 17, 3) := by decide +kernel
theorem dX0_init_23 : decode cX0_init 23 = .ok (.return_, 1) := by decide +kernel
theorem dX0_insert_0 : decode cX0_insert 0 = .ok (.iload_n 1, 1) := by decide +kernel
theorem dX0_insert_1 : decode cX0_insert 1 = .ok (.ifCond .lt 25, 3) := by decide +kernel
theorem dX0_insert_4 : decode cX0_insert 4 = .ok (.iload_n 1, 1) := by decide +kernel
theorem dX0_insert_5 : decode cX0_insert 5 = .ok (.aload_n 0, 1) := by decide +kernel
theorem dX0_insert_6 : decode cX0_insert 6 = .ok (.getfield 13, 3) := by decide +kernel
theorem dX0_insert_9 : decode cX0_insert 9 = .ok (.if_icmp .gt 17, 3) := by decide +kernel
theorem dX0_insert_12 : decode cX0_insert 12 = .ok (.iload 4, 2) := by decide +kernel
theorem dX0_insert_14 : decode cX0_insert 14 = .ok (.iconst 1, 1) := by decide +kernel
theorem dX0_insert_15 : decode cX0_insert 15 = .ok (.if_icmp .lt 11, 3) := by decide +kernel
theorem dX0_insert_18 : decode cX0_insert 18 = .ok (.iload 4, 2) := by decide +kernel
theorem dX0_insert_20 : decode cX0_insert 20 = .ok (.sipush 500, 3) := by decide +kernel
theorem dX0_insert_23 : decode cX0_insert 23 = .ok (.if_icmp .le 11, 3) := by decide +kernel
theorem dX0_insert_26 : decode cX0_insert 26 = .ok (.new 20, 3) := by decide +kernel
theorem dX0_insert_29 : decode cX0_insert 29 = .ok (.dup, 1) := by decide +kernel
theorem dX0_insert_30 : decode cX0_insert 30 = .ok (.invokespecial 22, 3) := by decide +kernel
theorem dX0_insert_33 : decode cX0_insert 33 = .ok (.athrow, 1) := by decide +kernel
theorem dX0_insert_34 : decode cX0_insert 34 = .ok (.iload 4, 2) := by decide +kernel
theorem dX0_insert_36 : decode cX0_insert 36 = .ok (.sipush 20000, 3) := by decide +kernel
theorem dX0_insert_39 : decode cX0_insert 39 = .ok (.aload_n 0, 1) := by decide +kernel
theorem dX0_insert_40 : decode cX0_insert 40 = .ok (.getfield 13, 3) := by decide +kernel
theorem dX0_insert_43 : decode cX0_insert 43 = .ok (.isub, 1) := by decide +kernel
theorem dX0_insert_44 : decode cX0_insert 44 = .ok (.if_icmp .le 11, 3) := by decide +kernel
theorem dX0_insert_47 : decode cX0_insert 47 = .ok (.new 23, 3) := by decide +kernel
theorem dX0_insert_50 : decode cX0_insert 50 = .ok (.dup, 1) := by decide +kernel
theorem dX0_insert_51 : decode cX0_insert 51 = .ok (.invokespecial 25, 3) := by decide +kernel
theorem dX0_insert_54 : decode cX0_insert 54 = .ok (.athrow, 1) := by decide +kernel
theorem dX0_insert_55 : decode cX0_insert 55 = .ok (.aload_n 0, 1) := by decide +kernel
theorem dX0_insert_56 : decode cX0_insert 56 = .ok (.aload_n 0, 1) := by decide +kernel
theorem dX0_insert_57 : decode cX0_insert 57 = .ok (.getfield 13, 3) := by decide +kernel
theorem dX0_insert_60 : decode cX0_insert 60 = .ok (.iload 4, 2) := by decide +kernel
theorem dX0_insert_62 : decode cX0_insert 62 = .ok (.iadd, 1) := by decide +kernel
theorem dX0_insert_63 : decode cX0_insert 63 = .ok (.invokevirtual 26, 3) := by decide +kernel
theorem dX0_insert_66 : decode cX0_insert 66 = .ok (.aload_n 0, 1) := by decide +kernel
theorem dX0_insert_67 : decode cX0_insert 67 = .ok (.iload_n 1, 1) := by decide +kernel
theorem dX0_insert_68 : decode cX0_insert 68 = .ok (.iload_n 1, 1) := by decide +kernel
theorem dX0_insert_69 : decode cX0_insert 69 = .ok (.iload 4, 2) := by decide +kernel
theorem dX0_insert_71 : decode cX0_insert 71 = .ok (.iadd, 1) := by decide +kernel
theorem dX0_insert_72 : decode cX0_insert 72 = .ok (.invokevirtual 30, 3) := by decide +kernel
theorem dX0_insert_75 : decode cX0_insert 75 = .ok (.aload_n 0, 1) := by decide +kernel
theorem dX0_insert_76 : decode cX0_insert 76 = .ok (.iload_n 1, 1) := by decide +kernel
theorem dX0_insert_77 : decode cX0_insert 77 = .ok (.iload_n 2, 1) := by decide +kernel
theorem dX0_insert_78 : decode cX0_insert 78 = .ok (.iload_n 3, 1) := by decide +kernel
theorem dX0_insert_79 : decode cX0_insert 79 = .ok (.iload 4, 2) := by decide +kernel
theorem dX0_insert_81 : decode cX0_insert 81 = .ok (.invokevirtual 34, 3) := by decide +kernel
theorem dX0_insert_84 : decode cX0_insert 84 = .ok (.aload_n 0, 1) := by decide +kernel
theorem dX0_insert_85 : decode cX0_insert 85 = .ok (.dup, 1) := by decide +kernel
theorem dX0_insert_86 : decode cX0_insert 86 = .ok (.getfield 17, 3) := by decide +kernel
theorem dX0_insert_89 : decode cX0_insert 89 = .ok (.aload_n 0, 1) := by decide +kernel
theorem dX0_insert_90 : decode cX0_insert 90 = .ok (.iload_n 1, 1) := by decide +kernel
theorem dX0_insert_91 : decode cX0_insert 91 = .ok (.iload_n 1, 1) := by decide +kernel
theorem dX0_insert_92 : decode cX0_insert 92 = .ok (.iload 4, 2) := by decide +kernel
theorem dX0_insert_94 : decode cX0_insert 94 = .ok (.iadd, 1) := by decide +kernel
theorem dX0_insert_95 : decode cX0_insert 95 = .ok (.invokevirtual 38, 3) := by decide +kernel
theorem dX0_insert_98 : decode cX0_insert 98 = .ok (.iadd, 1) := by decide +kernel
theorem dX0_insert_99 : decode cX0_insert 99 = .ok (.putfield 17, 3) := by decide +kernel
theorem dX0_insert_102 : decode cX0_insert 102 = .ok (.aload_n 0, 1) := by decide +kernel
theorem dX0_insert_103 : decode cX0_insert 103 = .ok (.getfield 13, 3) := by decide +kernel
theorem dX0_insert_106 : decode cX0_insert 106 = .ok (.ireturn, 1) := by decide +kernel
theorem dX0_delete_0 : decode cX0_delete 0 = .ok (.iload_n 1, 1) := by decide +kernel
theorem dX0_delete_1 : decode cX0_delete 1 = .ok (.ifCond .lt 18, 3) := by decide +kernel
theorem dX0_delete_4 : decode cX0_delete 4 = .ok (.iload_n 2, 1) := by decide +kernel
theorem dX0_delete_5 : decode cX0_delete 5 = .ok (.iconst 1, 1) := by decide +kernel
theorem dX0_delete_6 : decode cX0_delete 6 = .ok (.if_icmp .lt 13, 3) := by decide +kernel
theorem dX0_delete_9 : decode cX0_delete 9 = .ok (.iload_n 1, 1) := by decide +kernel
theorem dX0_delete_10 : decode cX0_delete 10 = .ok (.aload_n 0, 1) := by decide +kernel
theorem dX0_delete_11 : decode cX0_delete 11 = .ok (.getfield 13, 3) := by decide +kernel
theorem dX0_delete_14 : decode cX0_delete 14 = .ok (.iload_n 2, 1) := by decide +kernel
theorem dX0_delete_15 : decode cX0_delete 15 = .ok (.isub, 1) := by decide +kernel
theorem dX0_delete_16 : decode cX0_delete 16 = .ok (.if_icmp .le 11, 3) := by decide +kernel
theorem dX0_delete_19 : decode cX0_delete 19 = .ok (.new 20, 3) := by decide +kernel
theorem dX0_delete_22 : decode cX0_delete 22 = .ok (.dup, 1) := by decide +kernel
theorem dX0_delete_23 : decode cX0_delete 23 = .ok (.invokespecial 22, 3) := by decide +kernel
theorem dX0_delete_26 : decode cX0_delete 26 = .ok (.athrow, 1) := by decide +kernel
theorem dX0_delete_27 : decode cX0_delete 27 = .ok (.aload_n 0, 1) := by decide +kernel
theorem dX0_delete_28 : decode cX0_delete 28 = .ok (.dup, 1) := by decide +kernel
theorem dX0_delete_29 : decode cX0_delete 29 = .ok (.getfield 17, 3) := by decide +kernel
theorem dX0_delete_32 : decode cX0_delete 32 = .ok (.aload_n 0, 1) := by decide +kernel
theorem dX0_delete_33 : decode cX0_delete 33 = .ok (.iload_n 1, 1) := by decide +kernel
theorem dX0_delete_34 : decode cX0_delete 34 = .ok (.iload_n 1, 1) := by decide +kernel
theorem dX0_delete_35 : decode cX0_delete 35 = .ok (.iload_n 2, 1) := by decide +kernel
theorem dX0_delete_36 : decode cX0_delete 36 = .ok (.iadd, 1) := by decide +kernel
theorem dX0_delete_37 : decode cX0_delete 37 = .ok (.invokevirtual 38, 3) := by decide +kernel
theorem dX0_delete_40 : decode cX0_delete 40 = .ok (.isub, 1) := by decide +kernel
theorem dX0_delete_41 : decode cX0_delete 41 = .ok (.putfield 17, 3) := by decide +kernel
theorem dX0_delete_44 : decode cX0_delete 44 = .ok (.aload_n 0, 1) := by decide +kernel
theorem dX0_delete_45 : decode cX0_delete 45 = .ok (.iload_n 1, 1) := by decide +kernel
theorem dX0_delete_46 : decode cX0_delete 46 = .ok (.iload_n 2, 1) := by decide +kernel
theorem dX0_delete_47 : decode cX0_delete 47 = .ok (.iadd, 1) := by decide +kernel
theorem dX0_delete_48 : decode cX0_delete 48 = .ok (.iload_n 1, 1) := by decide +kernel
theorem dX0_delete_49 : decode cX0_delete 49 = .ok (.invokevirtual 30, 3) := by decide +kernel
theorem dX0_delete_52 : decode cX0_delete 52 = .ok (.aload_n 0, 1) := by decide +kernel
theorem dX0_delete_53 : decode cX0_delete 53 = .ok (.getfield 13, 3) := by decide +kernel
theorem dX0_delete_56 : decode cX0_delete 56 = .ok (.ireturn, 1) := by decide +kernel
theorem dX0_get_0 : decode cX0_get 0 = .ok (.iload_n 1, 1) := by decide +kernel
theorem dX0_get_1 : decode cX0_get 1 = .ok (.ifCond .lt 11, 3) := by decide +kernel
theorem dX0_get_4 : decode cX0_get 4 = .ok (.iload_n 1, 1) := by decide +kernel
theorem dX0_get_5 : decode cX0_get 5 = .ok (.aload_n 0, 1) := by decide +kernel
theorem dX0_get_6 : decode cX0_get 6 = .ok (.getfield 13, 3) := by decide +kernel
theorem dX0_get_9 : decode cX0_get 9 = .ok (.if_icmp .lt 11, 3) := by decide +kernel
theorem dX0_get_12 : decode cX0_get 12 = .ok (.new 42, 3) := by decide +kernel
theorem dX0_get_15 : decode cX0_get 15 = .ok (.dup, 1) := by decide +kernel
theorem dX0_get_16 : decode cX0_get 16 = .ok (.invokespecial 44, 3) := by decide +kernel
theorem dX0_get_19 : decode cX0_get 19 = .ok (.athrow, 1) := by decide +kernel
theorem dX0_get_20 : decode cX0_get 20 = .ok (.aload_n 0, 1) := by decide +kernel
theorem dX0_get_21 : decode cX0_get 21 = .ok (.getfield 9, 3) := by decide +kernel
theorem dX0_get_24 : decode cX0_get 24 = .ok (.iload_n 1, 1) := by decide +kernel
theorem dX0_get_25 : decode cX0_get 25 = .ok (.iaload, 1) := by decide +kernel
theorem dX0_get_26 : decode cX0_get 26 = .ok (.ireturn, 1) := by decide +kernel
theorem dX0_length_0 : decode cX0_length 0 = .ok (.aload_n 0, 1) := by decide +kernel
theorem dX0_length_1 : decode cX0_length 1 = .ok (.getfield 13, 3) := by decide +kernel
theorem dX0_length_4 : decode cX0_length 4 = .ok (.ireturn, 1) := by decide +kernel
theorem dX0_lines_0 : decode cX0_lines 0 = .ok (.aload_n 0, 1) := by decide +kernel
theorem dX0_lines_1 : decode cX0_lines 1 = .ok (.getfield 17, 3) := by decide +kernel
theorem dX0_lines_4 : decode cX0_lines 4 = .ok (.iconst 1, 1) := by decide +kernel
theorem dX0_lines_5 : decode cX0_lines 5 = .ok (.iadd, 1) := by decide +kernel
theorem dX0_lines_6 : decode cX0_lines 6 = .ok (.ireturn, 1) := by decide +kernel
theorem dX0_line_0 : decode cX0_line 0 = .ok (.iload_n 1, 1) := by decide +kernel
theorem dX0_line_1 : decode cX0_line 1 = .ok (.ifCond .lt 11, 3) := by decide +kernel
theorem dX0_line_4 : decode cX0_line 4 = .ok (.iload_n 1, 1) := by decide +kernel
theorem dX0_line_5 : decode cX0_line 5 = .ok (.aload_n 0, 1) := by decide +kernel
theorem dX0_line_6 : decode cX0_line 6 = .ok (.getfield 17, 3) := by decide +kernel
theorem dX0_line_9 : decode cX0_line 9 = .ok (.if_icmp .le 11, 3) := by decide +kernel
theorem dX0_line_12 : decode cX0_line 12 = .ok (.new 42, 3) := by decide +kernel
theorem dX0_line_15 : decode cX0_line 15 = .ok (.dup, 1) := by decide +kernel
theorem dX0_line_16 : decode cX0_line 16 = .ok (.invokespecial 44, 3) := by decide +kernel
theorem dX0_line_19 : decode cX0_line 19 = .ok (.athrow, 1) := by decide +kernel
theorem dX0_line_20 : decode cX0_line 20 = .ok (.aload_n 0, 1) := by decide +kernel
theorem dX0_line_21 : decode cX0_line 21 = .ok (.iload_n 1, 1) := by decide +kernel
theorem dX0_line_22 : decode cX0_line 22 = .ok (.invokevirtual 45, 3) := by decide +kernel
theorem dX0_line_25 : decode cX0_line 25 = .ok (.ireturn, 1) := by decide +kernel
theorem dX0_lineOf_0 : decode cX0_lineOf 0 = .ok (.iload_n 1, 1) := by decide +kernel
theorem dX0_lineOf_1 : decode cX0_lineOf 1 = .ok (.ifCond .lt 11, 3) := by decide +kernel
theorem dX0_lineOf_4 : decode cX0_lineOf 4 = .ok (.iload_n 1, 1) := by decide +kernel
theorem dX0_lineOf_5 : decode cX0_lineOf 5 = .ok (.aload_n 0, 1) := by decide +kernel
theorem dX0_lineOf_6 : decode cX0_lineOf 6 = .ok (.getfield 13, 3) := by decide +kernel
theorem dX0_lineOf_9 : decode cX0_lineOf 9 = .ok (.if_icmp .le 11, 3) := by decide +kernel
theorem dX0_lineOf_12 : decode cX0_lineOf 12 = .ok (.new 20, 3) := by decide +kernel
theorem dX0_lineOf_15 : decode cX0_lineOf 15 = .ok (.dup, 1) := by decide +kernel
theorem dX0_lineOf_16 : decode cX0_lineOf 16 = .ok (.invokespecial 22, 3) := by decide +kernel
theorem dX0_lineOf_19 : decode cX0_lineOf 19 = .ok (.athrow, 1) := by decide +kernel
theorem dX0_lineOf_20 : decode cX0_lineOf 20 = .ok (.aload_n 0, 1) := by decide +kernel
theorem dX0_lineOf_21 : decode cX0_lineOf 21 = .ok (.iconst 0, 1) := by decide +kernel
theorem dX0_lineOf_22 : decode cX0_lineOf 22 = .ok (.iload_n 1, 1) := by decide +kernel
theorem dX0_lineOf_23 : decode cX0_lineOf 23 = .ok (.invokevirtual 38, 3) := by decide +kernel
theorem dX0_lineOf_26 : decode cX0_lineOf 26 = .ok (.ireturn, 1) := by decide +kernel
theorem dX0_digest_0 : decode cX0_digest 0 = .ok (.iconst 0, 1) := by decide +kernel
theorem dX0_digest_1 : decode cX0_digest 1 = .ok (.istore_n 1, 1) := by decide +kernel
theorem dX0_digest_2 : decode cX0_digest 2 = .ok (.iconst 0, 1) := by decide +kernel
theorem dX0_digest_3 : decode cX0_digest 3 = .ok (.istore_n 2, 1) := by decide +kernel
theorem dX0_digest_4 : decode cX0_digest 4 = .ok (.iload_n 2, 1) := by decide +kernel
theorem dX0_digest_5 : decode cX0_digest 5 = .ok (.aload_n 0, 1) := by decide +kernel
theorem dX0_digest_6 : decode cX0_digest 6 = .ok (.getfield 13, 3) := by decide +kernel
theorem dX0_digest_9 : decode cX0_digest 9 = .ok (.if_icmp .ge 22, 3) := by decide +kernel
theorem dX0_digest_12 : decode cX0_digest 12 = .ok (.iload_n 1, 1) := by decide +kernel
theorem dX0_digest_13 : decode cX0_digest 13 = .ok (.aload_n 0, 1) := by decide +kernel
theorem dX0_digest_14 : decode cX0_digest 14 = .ok (.getfield 9, 3) := by decide +kernel
theorem dX0_digest_17 : decode cX0_digest 17 = .ok (.iload_n 2, 1) := by decide +kernel
theorem dX0_digest_18 : decode cX0_digest 18 = .ok (.iaload, 1) := by decide +kernel
theorem dX0_digest_19 : decode cX0_digest 19 = .ok (.iload_n 2, 1) := by decide +kernel
theorem dX0_digest_20 : decode cX0_digest 20 = .ok (.iconst 1, 1) := by decide +kernel
theorem dX0_digest_21 : decode cX0_digest 21 = .ok (.iadd, 1) := by decide +kernel
theorem dX0_digest_22 : decode cX0_digest 22 = .ok (.imul, 1) := by decide +kernel
theorem dX0_digest_23 : decode cX0_digest 23 = .ok (.iadd, 1) := by decide +kernel
theorem dX0_digest_24 : decode cX0_digest 24 = .ok (.istore_n 1, 1) := by decide +kernel
theorem dX0_digest_25 : decode cX0_digest 25 = .ok (.iinc 2 1, 3) := by decide +kernel
theorem dX0_digest_28 : decode cX0_digest 28 = .ok (.goto (-24), 3) := by decide +kernel
theorem dX0_digest_31 : decode cX0_digest 31 = .ok (.iload_n 1, 1) := by decide +kernel
theorem dX0_digest_32 : decode cX0_digest 32 = .ok (.ireturn, 1) := by decide +kernel
theorem dX0_makeRoomFor_0 : decode cX0_makeRoomFor 0 = .ok (.iload_n 1, 1) := by decide +kernel
theorem dX0_makeRoomFor_1 : decode cX0_makeRoomFor 1 = .ok (.aload_n 0, 1) := by decide +kernel
theorem dX0_makeRoomFor_2 : decode cX0_makeRoomFor 2 = .ok (.getfield 9, 3) := by decide +kernel
theorem dX0_makeRoomFor_5 : decode cX0_makeRoomFor 5 = .ok (.arraylength, 1) := by decide +kernel
theorem dX0_makeRoomFor_6 : decode cX0_makeRoomFor 6 = .ok (.if_icmp .gt 4, 3) := by decide +kernel
theorem dX0_makeRoomFor_9 : decode cX0_makeRoomFor 9 = .ok (.return_, 1) := by decide +kernel
theorem dX0_makeRoomFor_10 : decode cX0_makeRoomFor 10 = .ok (.iconst 2, 1) := by decide +kernel
theorem dX0_makeRoomFor_11 : decode cX0_makeRoomFor 11 = .ok (.aload_n 0, 1) := by decide +kernel
theorem dX0_makeRoomFor_12 : decode cX0_makeRoomFor 12 = .ok (.getfield 9, 3) := by decide +kernel
theorem dX0_makeRoomFor_15 : decode cX0_makeRoomFor 15 = .ok (.arraylength, 1) := by decide +kernel
theorem dX0_makeRoomFor_16 : decode cX0_makeRoomFor 16 = .ok (.imul, 1) := by decide +kernel
theorem dX0_makeRoomFor_17 : decode cX0_makeRoomFor 17 = .ok (.sipush 20000, 3) := by decide +kernel
theorem dX0_makeRoomFor_20 : decode cX0_makeRoomFor 20 = .ok (.invokestatic 49, 3) := by decide +kernel
theorem dX0_makeRoomFor_23 : decode cX0_makeRoomFor 23 = .ok (.istore_n 2, 1) := by decide +kernel
theorem dX0_makeRoomFor_24 : decode cX0_makeRoomFor 24 = .ok (.aload_n 0, 1) := by decide +kernel
theorem dX0_makeRoomFor_25 : decode cX0_makeRoomFor 25 = .ok (.aload_n 0, 1) := by decide +kernel
theorem dX0_makeRoomFor_26 : decode cX0_makeRoomFor 26 = .ok (.getfield 9, 3) := by decide +kernel
theorem dX0_makeRoomFor_29 : decode cX0_makeRoomFor 29 = .ok (.iload_n 1, 1) := by decide +kernel
theorem dX0_makeRoomFor_30 : decode cX0_makeRoomFor 30 = .ok (.iload_n 2, 1) := by decide +kernel
theorem dX0_makeRoomFor_31 : decode cX0_makeRoomFor 31 = .ok (.invokestatic 54, 3) := by decide +kernel
theorem dX0_makeRoomFor_34 : decode cX0_makeRoomFor 34 = .ok (.invokestatic 57, 3) := by decide +kernel
theorem dX0_makeRoomFor_37 : decode cX0_makeRoomFor 37 = .ok (.putfield 9, 3) := by decide +kernel
theorem dX0_makeRoomFor_40 : decode cX0_makeRoomFor 40 = .ok (.return_, 1) := by decide +kernel
theorem dX0_moveTail_0 : decode cX0_moveTail 0 = .ok (.aload_n 0, 1) := by decide +kernel
theorem dX0_moveTail_1 : decode cX0_moveTail 1 = .ok (.getfield 9, 3) := by decide +kernel
theorem dX0_moveTail_4 : decode cX0_moveTail 4 = .ok (.iload_n 1, 1) := by decide +kernel
theorem dX0_moveTail_5 : decode cX0_moveTail 5 = .ok (.aload_n 0, 1) := by decide +kernel
theorem dX0_moveTail_6 : decode cX0_moveTail 6 = .ok (.getfield 9, 3) := by decide +kernel
theorem dX0_moveTail_9 : decode cX0_moveTail 9 = .ok (.iload_n 2, 1) := by decide +kernel
theorem dX0_moveTail_10 : decode cX0_moveTail 10 = .ok (.aload_n 0, 1) := by decide +kernel
theorem dX0_moveTail_11 : decode cX0_moveTail 11 = .ok (.getfield 13, 3) := by decide +kernel
theorem dX0_moveTail_14 : decode cX0_moveTail 14 = .ok (.iload_n 1, 1) := by decide +kernel
theorem dX0_moveTail_15 : decode cX0_moveTail 15 = .ok (.isub, 1) := by decide +kernel
theorem dX0_moveTail_16 : decode cX0_moveTail 16 = .ok (.invokestatic 63, 3) := by decide +kernel
theorem dX0_moveTail_19 : decode cX0_moveTail 19 = .ok (.aload_n 0, 1) := by decide +kernel
theorem dX0_moveTail_20 : decode cX0_moveTail 20 = .ok (.dup, 1) := by decide +kernel
theorem dX0_moveTail_21 : decode cX0_moveTail 21 = .ok (.getfield 13, 3) := by decide +kernel
theorem dX0_moveTail_24 : decode cX0_moveTail 24 = .ok (.iload_n 2, 1) := by decide +kernel
theorem dX0_moveTail_25 : decode cX0_moveTail 25 = .ok (.iload_n 1, 1) := by decide +kernel
theorem dX0_moveTail_26 : decode cX0_moveTail 26 = .ok (.isub, 1) := by decide +kernel
theorem dX0_moveTail_27 : decode cX0_moveTail 27 = .ok (.iadd, 1) := by decide +kernel
theorem dX0_moveTail_28 : decode cX0_moveTail 28 = .ok (.putfield 13, 3) := by decide +kernel
theorem dX0_moveTail_31 : decode cX0_moveTail 31 = .ok (.return_, 1) := by decide +kernel
theorem dX0_fill_0 : decode cX0_fill 0 = .ok (.iload_n 2, 1) := by decide +kernel
theorem dX0_fill_1 : decode cX0_fill 1 = .ok (.istore 5, 2) := by decide +kernel
theorem dX0_fill_3 : decode cX0_fill 3 = .ok (.iload_n 1, 1) := by decide +kernel
theorem dX0_fill_4 : decode cX0_fill 4 = .ok (.istore 6, 2) := by decide +kernel
theorem dX0_fill_6 : decode cX0_fill 6 = .ok (.iload 6, 2) := by decide +kernel
theorem dX0_fill_8 : decode cX0_fill 8 = .ok (.iload_n 1, 1) := by decide +kernel
theorem dX0_fill_9 : decode cX0_fill 9 = .ok (.iload 4, 2) := by decide +kernel
theorem dX0_fill_11 : decode cX0_fill 11 = .ok (.iadd, 1) := by decide +kernel
theorem dX0_fill_12 : decode cX0_fill 12 = .ok (.if_icmp .ge 24, 3) := by decide +kernel
theorem dX0_fill_15 : decode cX0_fill 15 = .ok (.aload_n 0, 1) := by decide +kernel
theorem dX0_fill_16 : decode cX0_fill 16 = .ok (.getfield 9, 3) := by decide +kernel
theorem dX0_fill_19 : decode cX0_fill 19 = .ok (.iload 6, 2) := by decide +kernel
theorem dX0_fill_21 : decode cX0_fill 21 = .ok (.iload 5, 2) := by decide +kernel
theorem dX0_fill_23 : decode cX0_fill 23 = .ok (.iastore, 1) := by decide +kernel
theorem dX0_fill_24 : decode cX0_fill 24 = .ok (.iload 5, 2) := by decide +kernel
theorem dX0_fill_26 : decode cX0_fill 26 = .ok (.iload_n 3, 1) := by decide +kernel
theorem dX0_fill_27 : decode cX0_fill 27 = .ok (.iadd, 1) := by decide +kernel
theorem dX0_fill_28 : decode cX0_fill 28 = .ok (.istore 5, 2) := by decide +kernel
theorem dX0_fill_30 : decode cX0_fill 30 = .ok (.iinc 6 1, 3) := by decide +kernel
theorem dX0_fill_33 : decode cX0_fill 33 = .ok (.goto (-27), 3) := by decide +kernel
theorem dX0_fill_36 : decode cX0_fill 36 = .ok (.return_, 1) := by decide +kernel
theorem dX0_lineEndsIn_0 : decode cX0_lineEndsIn 0 = .ok (.iconst 0, 1) := by decide +kernel
theorem dX0_lineEndsIn_1 : decode cX0_lineEndsIn 1 = .ok (.istore_n 3, 1) := by decide +kernel
theorem dX0_lineEndsIn_2 : decode cX0_lineEndsIn 2 = .ok (.iload_n 1, 1) := by decide +kernel
theorem dX0_lineEndsIn_3 : decode cX0_lineEndsIn 3 = .ok (.istore 4, 2) := by decide +kernel
theorem dX0_lineEndsIn_5 : decode cX0_lineEndsIn 5 = .ok (.iload 4, 2) := by decide +kernel
theorem dX0_lineEndsIn_7 : decode cX0_lineEndsIn 7 = .ok (.iload_n 2, 1) := by decide +kernel
theorem dX0_lineEndsIn_8 : decode cX0_lineEndsIn 8 = .ok (.if_icmp .ge 24, 3) := by decide +kernel
theorem dX0_lineEndsIn_11 : decode cX0_lineEndsIn 11 = .ok (.aload_n 0, 1) := by decide +kernel
theorem dX0_lineEndsIn_12 : decode cX0_lineEndsIn 12 = .ok (.getfield 9, 3) := by decide +kernel
theorem dX0_lineEndsIn_15 : decode cX0_lineEndsIn 15 = .ok (.iload 4, 2) := by decide +kernel
theorem dX0_lineEndsIn_17 : decode cX0_lineEndsIn 17 = .ok (.iaload, 1) := by decide +kernel
theorem dX0_lineEndsIn_18 : decode cX0_lineEndsIn 18 = .ok (.bipush 10, 2) := by decide +kernel
theorem dX0_lineEndsIn_20 : decode cX0_lineEndsIn 20 = .ok (.if_icmp .ne 6, 3) := by decide +kernel
theorem dX0_lineEndsIn_23 : decode cX0_lineEndsIn 23 = .ok (.iinc 3 1, 3) := by decide +kernel
theorem dX0_lineEndsIn_26 : decode cX0_lineEndsIn 26 = .ok (.iinc 4 1, 3) := by decide +kernel
theorem dX0_lineEndsIn_29 : decode cX0_lineEndsIn 29 = .ok (.goto (-24), 3) := by decide +kernel
theorem dX0_lineEndsIn_32 : decode cX0_lineEndsIn 32 = .ok (.iload_n 3, 1) := by decide +kernel
theorem dX0_lineEndsIn_33 : decode cX0_lineEndsIn 33 = .ok (.ireturn, 1) := by decide +kernel
theorem dX0_indexBehindLineEnds_0 : decode cX0_indexBehindLineEnds 0 = .ok (.iconst 0, 1) := by decide +kernel
theorem dX0_indexBehindLineEnds_1 : decode cX0_indexBehindLineEnds 1 = .ok (.istore_n 2, 1) := by decide +kernel
theorem dX0_indexBehindLineEnds_2 : decode cX0_indexBehindLineEnds 2 = .ok (.iconst 0, 1) := by decide +kernel
theorem dX0_indexBehindLineEnds_3 : decode cX0_indexBehindLineEnds 3 = .ok (.istore_n 3, 1) := by decide +kernel
theorem dX0_indexBehindLineEnds_4 : decode cX0_indexBehindLineEnds 4 = .ok (.iload_n 3, 1) := by decide +kernel
theorem dX0_indexBehindLineEnds_5 : decode cX0_indexBehindLineEnds 5 = .ok (.iload_n 1, 1) := by decide +kernel
theorem dX0_indexBehindLineEnds_6 : decode cX0_indexBehindLineEnds 6 = .ok (.if_icmp .ge 31, 3) := by decide +kernel
theorem dX0_indexBehindLineEnds_9 : decode cX0_indexBehindLineEnds 9 = .ok (.iload_n 2, 1) := by decide +kernel
theorem dX0_indexBehindLineEnds_10 : decode cX0_indexBehindLineEnds 10 = .ok (.aload_n 0, 1) := by decide +kernel
theorem dX0_indexBehindLineEnds_11 : decode cX0_indexBehindLineEnds 11 = .ok (.getfield 13, 3) := by decide +kernel
theorem dX0_indexBehindLineEnds_14 : decode cX0_indexBehindLineEnds 14 = .ok (.if_icmp .ge 23, 3) := by decide +kernel
theorem dX0_indexBehindLineEnds_17 : decode cX0_indexBehindLineEnds 17 = .ok (.aload_n 0, 1) := by decide +kernel
theorem dX0_indexBehindLineEnds_18 : decode cX0_indexBehindLineEnds 18 = .ok (.getfield 9, 3) := by decide +kernel
theorem dX0_indexBehindLineEnds_21 : decode cX0_indexBehindLineEnds 21 = .ok (.iload_n 2, 1) := by decide +kernel
theorem dX0_indexBehindLineEnds_22 : decode cX0_indexBehindLineEnds 22 = .ok (.iaload, 1) := by decide +kernel
theorem dX0_indexBehindLineEnds_23 : decode cX0_indexBehindLineEnds 23 = .ok (.bipush 10, 2) := by decide +kernel
theorem dX0_indexBehindLineEnds_25 : decode cX0_indexBehindLineEnds 25 = .ok (.if_icmp .ne 6, 3) := by decide +kernel
theorem dX0_indexBehindLineEnds_28 : decode cX0_indexBehindLineEnds 28 = .ok (.iinc 3 1, 3) := by decide +kernel
theorem dX0_indexBehindLineEnds_31 : decode cX0_indexBehindLineEnds 31 = .ok (.iinc 2 1, 3) := by decide +kernel
theorem dX0_indexBehindLineEnds_34 : decode cX0_indexBehindLineEnds 34 = .ok (.goto (-30), 3) := by decide +kernel
theorem dX0_indexBehindLineEnds_37 : decode cX0_indexBehindLineEnds 37 = .ok (.iload_n 2, 1) := by decide +kernel
theorem dX0_indexBehindLineEnds_38 : decode cX0_indexBehindLineEnds 38 = .ok (.ireturn, 1) := by decide +kernel
theorem dJ_copyOf_0 : decode cJ_copyOf 0 = .ok (.iload_n 1, 1) := by decide +kernel
theorem dJ_copyOf_1 : decode cJ_copyOf 1 = .ok (.aload_n 0, 1) := by decide +kernel
theorem dJ_copyOf_2 : decode cJ_copyOf 2 = .ok (.arraylength, 1) := by decide +kernel
theorem dJ_copyOf_3 : decode cJ_copyOf 3 = .ok (.if_icmp .ne 11, 3) := by decide +kernel
theorem dJ_copyOf_6 : decode cJ_copyOf 6 = .ok (.aload_n 0, 1) := by decide +kernel
theorem dJ_copyOf_7 : decode cJ_copyOf 7 = .ok (.invokevirtual 316, 3) := by decide +kernel
theorem dJ_copyOf_10 : decode cJ_copyOf 10 = .ok (.checkcast 317, 3) := by decide +kernel
theorem dJ_copyOf_13 : decode cJ_copyOf 13 = .ok (.areturn, 1) := by decide +kernel
theorem dJ_copyOf_14 : decode cJ_copyOf 14 = .ok (.iload_n 1, 1) := by decide +kernel
theorem dJ_copyOf_15 : decode cJ_copyOf 15 = .ok (.newarray .int, 2) := by decide +kernel
theorem dJ_copyOf_17 : decode cJ_copyOf 17 = .ok (.astore_n 2, 1) := by decide +kernel
theorem dJ_copyOf_18 : decode cJ_copyOf 18 = .ok (.aload_n 0, 1) := by decide +kernel
theorem dJ_copyOf_19 : decode cJ_copyOf 19 = .ok (.iconst 0, 1) := by decide +kernel
theorem dJ_copyOf_20 : decode cJ_copyOf 20 = .ok (.aload_n 2, 1) := by decide +kernel
theorem dJ_copyOf_21 : decode cJ_copyOf 21 = .ok (.iconst 0, 1) := by decide +kernel
theorem dJ_copyOf_22 : decode cJ_copyOf 22 = .ok (.aload_n 0, 1) := by decide +kernel
theorem dJ_copyOf_23 : decode cJ_copyOf 23 = .ok (.arraylength, 1) := by decide +kernel
theorem dJ_copyOf_24 : decode cJ_copyOf 24 = .ok (.iload_n 1, 1) := by decide +kernel
theorem dJ_copyOf_25 : decode cJ_copyOf 25 = .ok (.invokestatic 304, 3) := by decide +kernel
theorem dJ_copyOf_28 : decode cJ_copyOf 28 = .ok (.invokestatic 150, 3) := by decide +kernel
theorem dJ_copyOf_31 : decode cJ_copyOf 31 = .ok (.aload_n 2, 1) := by decide +kernel
theorem dJ_copyOf_32 : decode cJ_copyOf 32 = .ok (.areturn, 1) := by decide +kernel
